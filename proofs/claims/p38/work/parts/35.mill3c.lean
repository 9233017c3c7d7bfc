theorem lf_X7_image_1 {nv0 : Int32} {nv1 : Int32} {nv2 : Int32} {nv3 : Int32} {nv5 : Int32} {nhh : Nat} {nww : Nat} {nkk : Nat} {ng1 : Nat → Int32} {ng2 : Nat → Int32} {ng3 : Nat → Int32} {ng4 : Nat → Int32} {ng5 : Nat → Int32} {fi : Nat → Option Nat} {i0 : Nat} {i0h : Nat} {i0w : Nat} {i0k : Nat} {i1 : Nat} {i1h : Nat} {i1w : Nat} {i1k : Nat} {k0 : Int32} (nhb : nhh ≤ 999) (nwb : nww ≤ 6) (nkb : nkk ≤ 6) (hLv : okLv (nrm nv0 nv1 nv2 nv3 nhh nv5 nww nkk ng1 ng2 ng3 ng4 ng5)) (hi0 : fi 0 = some i0) (hi1 : fi 1 = some i1) (hg0 : i0h ≤ 999) (hg1 : i0w ≤ 6) (hg2 : i0k ≤ 6) (hg3 : i1h ≤ 999) (hg4 : i1w ≤ 6) (hg5 : i1k ≤ 6) (c_1 : k0 < 0) : i0h ≤ 999 := by
  first
  | assumption
  | exact (xim_k (by decide)).symm
  | exact (xaim_b (Or.inl c_1)).symm
  | exact (xim_k (fun q => by subst q; exact absurd c_1 (by decide))).symm
  | (have z := ((tX hLv nwb nkb (by omega)).1 (by assumption)).1
     first | exact (xim_0 (nr0.trans z)).symm | exact (xaim_0 (by decide) (nr0.trans z)).symm)
  | (have z := ((tX hLv nwb nkb (by omega)).2 (by assumption)).1
     first | exact (xaim_go (by decide) (by rw [nr0]; exact z)).symm | exact (nr_eq nwb nkb (by assumption) (by assumption) (by assumption) (by assumption) (by assumption)).trans (xim_go (by rw [nr0]; exact z)).symm)
theorem lf_X7_image_2 {nv0 : Int32} {nv1 : Int32} {nv2 : Int32} {nv3 : Int32} {nv5 : Int32} {nhh : Nat} {nww : Nat} {nkk : Nat} {ng1 : Nat → Int32} {ng2 : Nat → Int32} {ng3 : Nat → Int32} {ng4 : Nat → Int32} {ng5 : Nat → Int32} {fi : Nat → Option Nat} {i0 : Nat} {i0h : Nat} {i0w : Nat} {i0k : Nat} {i1 : Nat} {i1h : Nat} {i1w : Nat} {i1k : Nat} {k0 : Int32} (nhb : nhh ≤ 999) (nwb : nww ≤ 6) (nkb : nkk ≤ 6) (hLv : okLv (nrm nv0 nv1 nv2 nv3 nhh nv5 nww nkk ng1 ng2 ng3 ng4 ng5)) (hi0 : fi 0 = some i0) (hi1 : fi 1 = some i1) (hg0 : i0h ≤ 999) (hg1 : i0w ≤ 6) (hg2 : i0k ≤ 6) (hg3 : i1h ≤ 999) (hg4 : i1w ≤ 6) (hg5 : i1k ≤ 6) (c_1 : k0 < 0) : i0w ≤ 6 := by
  first
  | assumption
  | exact (xim_k (by decide)).symm
  | exact (xaim_b (Or.inl c_1)).symm
  | exact (xim_k (fun q => by subst q; exact absurd c_1 (by decide))).symm
  | (have z := ((tX hLv nwb nkb (by omega)).1 (by assumption)).1
     first | exact (xim_0 (nr0.trans z)).symm | exact (xaim_0 (by decide) (nr0.trans z)).symm)
  | (have z := ((tX hLv nwb nkb (by omega)).2 (by assumption)).1
     first | exact (xaim_go (by decide) (by rw [nr0]; exact z)).symm | exact (nr_eq nwb nkb (by assumption) (by assumption) (by assumption) (by assumption) (by assumption)).trans (xim_go (by rw [nr0]; exact z)).symm)
theorem lf_X7_image_3 {nv0 : Int32} {nv1 : Int32} {nv2 : Int32} {nv3 : Int32} {nv5 : Int32} {nhh : Nat} {nww : Nat} {nkk : Nat} {ng1 : Nat → Int32} {ng2 : Nat → Int32} {ng3 : Nat → Int32} {ng4 : Nat → Int32} {ng5 : Nat → Int32} {fi : Nat → Option Nat} {i0 : Nat} {i0h : Nat} {i0w : Nat} {i0k : Nat} {i1 : Nat} {i1h : Nat} {i1w : Nat} {i1k : Nat} {k0 : Int32} (nhb : nhh ≤ 999) (nwb : nww ≤ 6) (nkb : nkk ≤ 6) (hLv : okLv (nrm nv0 nv1 nv2 nv3 nhh nv5 nww nkk ng1 ng2 ng3 ng4 ng5)) (hi0 : fi 0 = some i0) (hi1 : fi 1 = some i1) (hg0 : i0h ≤ 999) (hg1 : i0w ≤ 6) (hg2 : i0k ≤ 6) (hg3 : i1h ≤ 999) (hg4 : i1w ≤ 6) (hg5 : i1k ≤ 6) (c_1 : k0 < 0) : i0k ≤ 6 := by
  first
  | assumption
  | exact (xim_k (by decide)).symm
  | exact (xaim_b (Or.inl c_1)).symm
  | exact (xim_k (fun q => by subst q; exact absurd c_1 (by decide))).symm
  | (have z := ((tX hLv nwb nkb (by omega)).1 (by assumption)).1
     first | exact (xim_0 (nr0.trans z)).symm | exact (xaim_0 (by decide) (nr0.trans z)).symm)
  | (have z := ((tX hLv nwb nkb (by omega)).2 (by assumption)).1
     first | exact (xaim_go (by decide) (by rw [nr0]; exact z)).symm | exact (nr_eq nwb nkb (by assumption) (by assumption) (by assumption) (by assumption) (by assumption)).trans (xim_go (by rw [nr0]; exact z)).symm)
theorem lf_X7_image_4 {nv0 : Int32} {nv1 : Int32} {nv2 : Int32} {nv3 : Int32} {nv5 : Int32} {nhh : Nat} {nww : Nat} {nkk : Nat} {ng1 : Nat → Int32} {ng2 : Nat → Int32} {ng3 : Nat → Int32} {ng4 : Nat → Int32} {ng5 : Nat → Int32} {fi : Nat → Option Nat} {i0 : Nat} {i0h : Nat} {i0w : Nat} {i0k : Nat} {i1 : Nat} {i1h : Nat} {i1w : Nat} {i1k : Nat} {k0 : Int32} (nhb : nhh ≤ 999) (nwb : nww ≤ 6) (nkb : nkk ≤ 6) (hLv : okLv (nrm nv0 nv1 nv2 nv3 nhh nv5 nww nkk ng1 ng2 ng3 ng4 ng5)) (hi0 : fi 0 = some i0) (hi1 : fi 1 = some i1) (hg0 : i0h ≤ 999) (hg1 : i0w ≤ 6) (hg2 : i0k ≤ 6) (hg3 : i1h ≤ 999) (hg4 : i1w ≤ 6) (hg5 : i1k ≤ 6) (c_1 : k0 < 0) : i1h ≤ 999 := by
  first
  | assumption
  | exact (xim_k (by decide)).symm
  | exact (xaim_b (Or.inl c_1)).symm
  | exact (xim_k (fun q => by subst q; exact absurd c_1 (by decide))).symm
  | (have z := ((tX hLv nwb nkb (by omega)).1 (by assumption)).1
     first | exact (xim_0 (nr0.trans z)).symm | exact (xaim_0 (by decide) (nr0.trans z)).symm)
  | (have z := ((tX hLv nwb nkb (by omega)).2 (by assumption)).1
     first | exact (xaim_go (by decide) (by rw [nr0]; exact z)).symm | exact (nr_eq nwb nkb (by assumption) (by assumption) (by assumption) (by assumption) (by assumption)).trans (xim_go (by rw [nr0]; exact z)).symm)
theorem lf_X7_image_5 {nv0 : Int32} {nv1 : Int32} {nv2 : Int32} {nv3 : Int32} {nv5 : Int32} {nhh : Nat} {nww : Nat} {nkk : Nat} {ng1 : Nat → Int32} {ng2 : Nat → Int32} {ng3 : Nat → Int32} {ng4 : Nat → Int32} {ng5 : Nat → Int32} {fi : Nat → Option Nat} {i0 : Nat} {i0h : Nat} {i0w : Nat} {i0k : Nat} {i1 : Nat} {i1h : Nat} {i1w : Nat} {i1k : Nat} {k0 : Int32} (nhb : nhh ≤ 999) (nwb : nww ≤ 6) (nkb : nkk ≤ 6) (hLv : okLv (nrm nv0 nv1 nv2 nv3 nhh nv5 nww nkk ng1 ng2 ng3 ng4 ng5)) (hi0 : fi 0 = some i0) (hi1 : fi 1 = some i1) (hg0 : i0h ≤ 999) (hg1 : i0w ≤ 6) (hg2 : i0k ≤ 6) (hg3 : i1h ≤ 999) (hg4 : i1w ≤ 6) (hg5 : i1k ≤ 6) (c_1 : k0 < 0) : i1w ≤ 6 := by
  first
  | assumption
  | exact (xim_k (by decide)).symm
  | exact (xaim_b (Or.inl c_1)).symm
  | exact (xim_k (fun q => by subst q; exact absurd c_1 (by decide))).symm
  | (have z := ((tX hLv nwb nkb (by omega)).1 (by assumption)).1
     first | exact (xim_0 (nr0.trans z)).symm | exact (xaim_0 (by decide) (nr0.trans z)).symm)
  | (have z := ((tX hLv nwb nkb (by omega)).2 (by assumption)).1
     first | exact (xaim_go (by decide) (by rw [nr0]; exact z)).symm | exact (nr_eq nwb nkb (by assumption) (by assumption) (by assumption) (by assumption) (by assumption)).trans (xim_go (by rw [nr0]; exact z)).symm)
theorem lf_X7_image_6 {nv0 : Int32} {nv1 : Int32} {nv2 : Int32} {nv3 : Int32} {nv5 : Int32} {nhh : Nat} {nww : Nat} {nkk : Nat} {ng1 : Nat → Int32} {ng2 : Nat → Int32} {ng3 : Nat → Int32} {ng4 : Nat → Int32} {ng5 : Nat → Int32} {fi : Nat → Option Nat} {i0 : Nat} {i0h : Nat} {i0w : Nat} {i0k : Nat} {i1 : Nat} {i1h : Nat} {i1w : Nat} {i1k : Nat} {k0 : Int32} (nhb : nhh ≤ 999) (nwb : nww ≤ 6) (nkb : nkk ≤ 6) (hLv : okLv (nrm nv0 nv1 nv2 nv3 nhh nv5 nww nkk ng1 ng2 ng3 ng4 ng5)) (hi0 : fi 0 = some i0) (hi1 : fi 1 = some i1) (hg0 : i0h ≤ 999) (hg1 : i0w ≤ 6) (hg2 : i0k ≤ 6) (hg3 : i1h ≤ 999) (hg4 : i1w ≤ 6) (hg5 : i1k ≤ 6) (c_1 : k0 < 0) : i1k ≤ 6 := by
  first
  | assumption
  | exact (xim_k (by decide)).symm
  | exact (xaim_b (Or.inl c_1)).symm
  | exact (xim_k (fun q => by subst q; exact absurd c_1 (by decide))).symm
  | (have z := ((tX hLv nwb nkb (by omega)).1 (by assumption)).1
     first | exact (xim_0 (nr0.trans z)).symm | exact (xaim_0 (by decide) (nr0.trans z)).symm)
  | (have z := ((tX hLv nwb nkb (by omega)).2 (by assumption)).1
     first | exact (xaim_go (by decide) (by rw [nr0]; exact z)).symm | exact (nr_eq nwb nkb (by assumption) (by assumption) (by assumption) (by assumption) (by assumption)).trans (xim_go (by rw [nr0]; exact z)).symm)
theorem lf_X7_image_7 {nv0 : Int32} {nv1 : Int32} {nv2 : Int32} {nv3 : Int32} {nv5 : Int32} {nhh : Nat} {nww : Nat} {nkk : Nat} {ng1 : Nat → Int32} {ng2 : Nat → Int32} {ng3 : Nat → Int32} {ng4 : Nat → Int32} {ng5 : Nat → Int32} {fi : Nat → Option Nat} {i0 : Nat} {i0v0 : Int32} {i0v1 : Int32} {i0v2 : Int32} {i0v3 : Int32} {i0v5 : Int32} {i0h : Nat} {i0w : Nat} {i0k : Nat} {i0g1 : Nat → Int32} {i0g2 : Nat → Int32} {i0g3 : Nat → Int32} {i0g4 : Nat → Int32} {i0g5 : Nat → Int32} {i1 : Nat} {i1h : Nat} {i1w : Nat} {i1k : Nat} {k0 : Int32} (nhb : nhh ≤ 999) (nwb : nww ≤ 6) (nkb : nkk ≤ 6) (hLv : okLv (nrm nv0 nv1 nv2 nv3 nhh nv5 nww nkk ng1 ng2 ng3 ng4 ng5)) (hi0 : fi 0 = some i0) (hi1 : fi 1 = some i1) (hg0 : i0h ≤ 999) (hg1 : i0w ≤ 6) (hg2 : i0k ≤ 6) (hg3 : i1h ≤ 999) (hg4 : i1w ≤ 6) (hg5 : i1k ≤ 6) (c_1 : k0 < 0) : (nrm i0v0 i0v1 i0v2 i0v3 i0h i0v5 i0w i0k i0g1 i0g2 i0g3 i0g4 i0g5) = n_image (nrm nv0 nv1 nv2 nv3 nhh nv5 nww nkk ng1 ng2 ng3 ng4 ng5) (nrm i0v0 i0v1 i0v2 i0v3 i0h i0v5 i0w i0k i0g1 i0g2 i0g3 i0g4 i0g5) k0 0 := by
  first
  | assumption
  | exact (xim_k (by decide)).symm
  | exact (xaim_b (Or.inl c_1)).symm
  | exact (xim_k (fun q => by subst q; exact absurd c_1 (by decide))).symm
  | (have z := ((tX hLv nwb nkb (by omega)).1 (by assumption)).1
     first | exact (xim_0 (nr0.trans z)).symm | exact (xaim_0 (by decide) (nr0.trans z)).symm)
  | (have z := ((tX hLv nwb nkb (by omega)).2 (by assumption)).1
     first | exact (xaim_go (by decide) (by rw [nr0]; exact z)).symm | exact (nr_eq nwb nkb (by assumption) (by assumption) (by assumption) (by assumption) (by assumption)).trans (xim_go (by rw [nr0]; exact z)).symm)
theorem lf_X7_image_8 {nv0 : Int32} {nv1 : Int32} {nv2 : Int32} {nv3 : Int32} {nv5 : Int32} {nhh : Nat} {nww : Nat} {nkk : Nat} {ng1 : Nat → Int32} {ng2 : Nat → Int32} {ng3 : Nat → Int32} {ng4 : Nat → Int32} {ng5 : Nat → Int32} {fi : Nat → Option Nat} {i0 : Nat} {i0h : Nat} {i0w : Nat} {i0k : Nat} {i1 : Nat} {i1v0 : Int32} {i1v1 : Int32} {i1v2 : Int32} {i1v3 : Int32} {i1v5 : Int32} {i1h : Nat} {i1w : Nat} {i1k : Nat} {i1g1 : Nat → Int32} {i1g2 : Nat → Int32} {i1g3 : Nat → Int32} {i1g4 : Nat → Int32} {i1g5 : Nat → Int32} {k0 : Int32} (nhb : nhh ≤ 999) (nwb : nww ≤ 6) (nkb : nkk ≤ 6) (hLv : okLv (nrm nv0 nv1 nv2 nv3 nhh nv5 nww nkk ng1 ng2 ng3 ng4 ng5)) (hi0 : fi 0 = some i0) (hi1 : fi 1 = some i1) (hg0 : i0h ≤ 999) (hg1 : i0w ≤ 6) (hg2 : i0k ≤ 6) (hg3 : i1h ≤ 999) (hg4 : i1w ≤ 6) (hg5 : i1k ≤ 6) (c_1 : k0 < 0) : (nrm i1v0 i1v1 i1v2 i1v3 i1h i1v5 i1w i1k i1g1 i1g2 i1g3 i1g4 i1g5) = n_image (nrm nv0 nv1 nv2 nv3 nhh nv5 nww nkk ng1 ng2 ng3 ng4 ng5) (nrm i1v0 i1v1 i1v2 i1v3 i1h i1v5 i1w i1k i1g1 i1g2 i1g3 i1g4 i1g5) k0 1 := by
  first
  | assumption
  | exact (xim_k (by decide)).symm
  | exact (xaim_b (Or.inl c_1)).symm
  | exact (xim_k (fun q => by subst q; exact absurd c_1 (by decide))).symm
  | (have z := ((tX hLv nwb nkb (by omega)).1 (by assumption)).1
     first | exact (xim_0 (nr0.trans z)).symm | exact (xaim_0 (by decide) (nr0.trans z)).symm)
  | (have z := ((tX hLv nwb nkb (by omega)).2 (by assumption)).1
     first | exact (xaim_go (by decide) (by rw [nr0]; exact z)).symm | exact (nr_eq nwb nkb (by assumption) (by assumption) (by assumption) (by assumption) (by assumption)).trans (xim_go (by rw [nr0]; exact z)).symm)
theorem lf_X7_image_9 {nv0 : Int32} {nv1 : Int32} {nv2 : Int32} {nv3 : Int32} {nv5 : Int32} {nhh : Nat} {nww : Nat} {nkk : Nat} {ng1 : Nat → Int32} {ng2 : Nat → Int32} {ng3 : Nat → Int32} {ng4 : Nat → Int32} {ng5 : Nat → Int32} {fi : Nat → Option Nat} {i0 : Nat} {i0h : Nat} {i0w : Nat} {i0k : Nat} {i1 : Nat} {i1h : Nat} {i1w : Nat} {i1k : Nat} {k0 : Int32} (nhb : nhh ≤ 999) (nwb : nww ≤ 6) (nkb : nkk ≤ 6) (hLv : okLv (nrm nv0 nv1 nv2 nv3 nhh nv5 nww nkk ng1 ng2 ng3 ng4 ng5)) (hi0 : fi 0 = some i0) (hi1 : fi 1 = some i1) (hg0 : i0h ≤ 999) (hg1 : i0w ≤ 6) (hg2 : i0k ≤ 6) (hg3 : i1h ≤ 999) (hg4 : i1w ≤ 6) (hg5 : i1k ≤ 6) (c_1 : k0 < 0) : (-1000001) = (a_image (nrm nv0 nv1 nv2 nv3 nhh nv5 nww nkk ng1 ng2 ng3 ng4 ng5) k0) := by
  first
  | assumption
  | exact (xim_k (by decide)).symm
  | exact (xaim_b (Or.inl c_1)).symm
  | exact (xim_k (fun q => by subst q; exact absurd c_1 (by decide))).symm
  | (have z := ((tX hLv nwb nkb (by omega)).1 (by assumption)).1
     first | exact (xim_0 (nr0.trans z)).symm | exact (xaim_0 (by decide) (nr0.trans z)).symm)
  | (have z := ((tX hLv nwb nkb (by omega)).2 (by assumption)).1
     first | exact (xaim_go (by decide) (by rw [nr0]; exact z)).symm | exact (nr_eq nwb nkb (by assumption) (by assumption) (by assumption) (by assumption) (by assumption)).trans (xim_go (by rw [nr0]; exact z)).symm)
theorem lf_X7_image_10 {nv0 : Int32} {nv1 : Int32} {nv2 : Int32} {nv3 : Int32} {nv5 : Int32} {nhh : Nat} {nww : Nat} {nkk : Nat} {ng1 : Nat → Int32} {ng2 : Nat → Int32} {ng3 : Nat → Int32} {ng4 : Nat → Int32} {ng5 : Nat → Int32} {fi : Nat → Option Nat} {i0 : Nat} {i0h : Nat} {i0w : Nat} {i0k : Nat} {i1 : Nat} {i1h : Nat} {i1w : Nat} {i1k : Nat} (nhb : nhh ≤ 999) (nwb : nww ≤ 6) (nkb : nkk ≤ 6) (hLv : okLv (nrm nv0 nv1 nv2 nv3 nhh nv5 nww nkk ng1 ng2 ng3 ng4 ng5)) (hi0 : fi 0 = some i0) (hi1 : fi 1 = some i1) (hg0 : i0h ≤ 999) (hg1 : i0w ≤ 6) (hg2 : i0k ≤ 6) (hg3 : i1h ≤ 999) (hg4 : i1w ≤ 6) (hg5 : i1k ≤ 6) (c_1 : ¬ ((0 : Int32) < 0)) (c_2 : (0 : Int32) < 2) (f_3_0_0 : ¬ 0 < nv0) : i0h ≤ 999 := by
  first
  | assumption
  | exact (xim_k (by decide)).symm
  | exact (xaim_b (Or.inl c_1)).symm
  | exact (xaim_b (Or.inr c_2)).symm
  | exact (xim_k (fun q => by subst q; exact absurd c_1 (by decide))).symm
  | exact (xim_k (fun q => by subst q; exact absurd c_2 (by decide))).symm
  | (have z := ((tX hLv nwb nkb (by omega)).1 (by assumption)).1
     first | exact (xim_0 (nr0.trans z)).symm | exact (xaim_0 (by decide) (nr0.trans z)).symm)
  | (have z := ((tX hLv nwb nkb (by omega)).2 (by assumption)).1
     first | exact (xaim_go (by decide) (by rw [nr0]; exact z)).symm | exact (nr_eq nwb nkb (by assumption) (by assumption) (by assumption) (by assumption) (by assumption)).trans (xim_go (by rw [nr0]; exact z)).symm)
theorem lf_X7_image_11 {nv0 : Int32} {nv1 : Int32} {nv2 : Int32} {nv3 : Int32} {nv5 : Int32} {nhh : Nat} {nww : Nat} {nkk : Nat} {ng1 : Nat → Int32} {ng2 : Nat → Int32} {ng3 : Nat → Int32} {ng4 : Nat → Int32} {ng5 : Nat → Int32} {fi : Nat → Option Nat} {i0 : Nat} {i0h : Nat} {i0w : Nat} {i0k : Nat} {i1 : Nat} {i1h : Nat} {i1w : Nat} {i1k : Nat} (nhb : nhh ≤ 999) (nwb : nww ≤ 6) (nkb : nkk ≤ 6) (hLv : okLv (nrm nv0 nv1 nv2 nv3 nhh nv5 nww nkk ng1 ng2 ng3 ng4 ng5)) (hi0 : fi 0 = some i0) (hi1 : fi 1 = some i1) (hg0 : i0h ≤ 999) (hg1 : i0w ≤ 6) (hg2 : i0k ≤ 6) (hg3 : i1h ≤ 999) (hg4 : i1w ≤ 6) (hg5 : i1k ≤ 6) (c_1 : ¬ ((0 : Int32) < 0)) (c_2 : (0 : Int32) < 2) (f_3_0_0 : ¬ 0 < nv0) : i0w ≤ 6 := by
  first
  | assumption
  | exact (xim_k (by decide)).symm
  | exact (xaim_b (Or.inl c_1)).symm
  | exact (xaim_b (Or.inr c_2)).symm
  | exact (xim_k (fun q => by subst q; exact absurd c_1 (by decide))).symm
  | exact (xim_k (fun q => by subst q; exact absurd c_2 (by decide))).symm
  | (have z := ((tX hLv nwb nkb (by omega)).1 (by assumption)).1
     first | exact (xim_0 (nr0.trans z)).symm | exact (xaim_0 (by decide) (nr0.trans z)).symm)
  | (have z := ((tX hLv nwb nkb (by omega)).2 (by assumption)).1
     first | exact (xaim_go (by decide) (by rw [nr0]; exact z)).symm | exact (nr_eq nwb nkb (by assumption) (by assumption) (by assumption) (by assumption) (by assumption)).trans (xim_go (by rw [nr0]; exact z)).symm)
theorem lf_X7_image_12 {nv0 : Int32} {nv1 : Int32} {nv2 : Int32} {nv3 : Int32} {nv5 : Int32} {nhh : Nat} {nww : Nat} {nkk : Nat} {ng1 : Nat → Int32} {ng2 : Nat → Int32} {ng3 : Nat → Int32} {ng4 : Nat → Int32} {ng5 : Nat → Int32} {fi : Nat → Option Nat} {i0 : Nat} {i0h : Nat} {i0w : Nat} {i0k : Nat} {i1 : Nat} {i1h : Nat} {i1w : Nat} {i1k : Nat} (nhb : nhh ≤ 999) (nwb : nww ≤ 6) (nkb : nkk ≤ 6) (hLv : okLv (nrm nv0 nv1 nv2 nv3 nhh nv5 nww nkk ng1 ng2 ng3 ng4 ng5)) (hi0 : fi 0 = some i0) (hi1 : fi 1 = some i1) (hg0 : i0h ≤ 999) (hg1 : i0w ≤ 6) (hg2 : i0k ≤ 6) (hg3 : i1h ≤ 999) (hg4 : i1w ≤ 6) (hg5 : i1k ≤ 6) (c_1 : ¬ ((0 : Int32) < 0)) (c_2 : (0 : Int32) < 2) (f_3_0_0 : ¬ 0 < nv0) : i0k ≤ 6 := by
  first
  | assumption
  | exact (xim_k (by decide)).symm
  | exact (xaim_b (Or.inl c_1)).symm
  | exact (xaim_b (Or.inr c_2)).symm
  | exact (xim_k (fun q => by subst q; exact absurd c_1 (by decide))).symm
  | exact (xim_k (fun q => by subst q; exact absurd c_2 (by decide))).symm
  | (have z := ((tX hLv nwb nkb (by omega)).1 (by assumption)).1
     first | exact (xim_0 (nr0.trans z)).symm | exact (xaim_0 (by decide) (nr0.trans z)).symm)
  | (have z := ((tX hLv nwb nkb (by omega)).2 (by assumption)).1
     first | exact (xaim_go (by decide) (by rw [nr0]; exact z)).symm | exact (nr_eq nwb nkb (by assumption) (by assumption) (by assumption) (by assumption) (by assumption)).trans (xim_go (by rw [nr0]; exact z)).symm)
theorem lf_X7_image_13 {nv0 : Int32} {nv1 : Int32} {nv2 : Int32} {nv3 : Int32} {nv5 : Int32} {nhh : Nat} {nww : Nat} {nkk : Nat} {ng1 : Nat → Int32} {ng2 : Nat → Int32} {ng3 : Nat → Int32} {ng4 : Nat → Int32} {ng5 : Nat → Int32} {fi : Nat → Option Nat} {i0 : Nat} {i0h : Nat} {i0w : Nat} {i0k : Nat} {i1 : Nat} {i1h : Nat} {i1w : Nat} {i1k : Nat} (nhb : nhh ≤ 999) (nwb : nww ≤ 6) (nkb : nkk ≤ 6) (hLv : okLv (nrm nv0 nv1 nv2 nv3 nhh nv5 nww nkk ng1 ng2 ng3 ng4 ng5)) (hi0 : fi 0 = some i0) (hi1 : fi 1 = some i1) (hg0 : i0h ≤ 999) (hg1 : i0w ≤ 6) (hg2 : i0k ≤ 6) (hg3 : i1h ≤ 999) (hg4 : i1w ≤ 6) (hg5 : i1k ≤ 6) (c_1 : ¬ ((0 : Int32) < 0)) (c_2 : (0 : Int32) < 2) (f_3_0_0 : ¬ 0 < nv0) : i1h ≤ 999 := by
  first
  | assumption
  | exact (xim_k (by decide)).symm
  | exact (xaim_b (Or.inl c_1)).symm
  | exact (xaim_b (Or.inr c_2)).symm
  | exact (xim_k (fun q => by subst q; exact absurd c_1 (by decide))).symm
  | exact (xim_k (fun q => by subst q; exact absurd c_2 (by decide))).symm
  | (have z := ((tX hLv nwb nkb (by omega)).1 (by assumption)).1
     first | exact (xim_0 (nr0.trans z)).symm | exact (xaim_0 (by decide) (nr0.trans z)).symm)
  | (have z := ((tX hLv nwb nkb (by omega)).2 (by assumption)).1
     first | exact (xaim_go (by decide) (by rw [nr0]; exact z)).symm | exact (nr_eq nwb nkb (by assumption) (by assumption) (by assumption) (by assumption) (by assumption)).trans (xim_go (by rw [nr0]; exact z)).symm)
theorem lf_X7_image_14 {nv0 : Int32} {nv1 : Int32} {nv2 : Int32} {nv3 : Int32} {nv5 : Int32} {nhh : Nat} {nww : Nat} {nkk : Nat} {ng1 : Nat → Int32} {ng2 : Nat → Int32} {ng3 : Nat → Int32} {ng4 : Nat → Int32} {ng5 : Nat → Int32} {fi : Nat → Option Nat} {i0 : Nat} {i0h : Nat} {i0w : Nat} {i0k : Nat} {i1 : Nat} {i1h : Nat} {i1w : Nat} {i1k : Nat} (nhb : nhh ≤ 999) (nwb : nww ≤ 6) (nkb : nkk ≤ 6) (hLv : okLv (nrm nv0 nv1 nv2 nv3 nhh nv5 nww nkk ng1 ng2 ng3 ng4 ng5)) (hi0 : fi 0 = some i0) (hi1 : fi 1 = some i1) (hg0 : i0h ≤ 999) (hg1 : i0w ≤ 6) (hg2 : i0k ≤ 6) (hg3 : i1h ≤ 999) (hg4 : i1w ≤ 6) (hg5 : i1k ≤ 6) (c_1 : ¬ ((0 : Int32) < 0)) (c_2 : (0 : Int32) < 2) (f_3_0_0 : ¬ 0 < nv0) : i1w ≤ 6 := by
  first
  | assumption
  | exact (xim_k (by decide)).symm
  | exact (xaim_b (Or.inl c_1)).symm
  | exact (xaim_b (Or.inr c_2)).symm
  | exact (xim_k (fun q => by subst q; exact absurd c_1 (by decide))).symm
  | exact (xim_k (fun q => by subst q; exact absurd c_2 (by decide))).symm
  | (have z := ((tX hLv nwb nkb (by omega)).1 (by assumption)).1
     first | exact (xim_0 (nr0.trans z)).symm | exact (xaim_0 (by decide) (nr0.trans z)).symm)
  | (have z := ((tX hLv nwb nkb (by omega)).2 (by assumption)).1
     first | exact (xaim_go (by decide) (by rw [nr0]; exact z)).symm | exact (nr_eq nwb nkb (by assumption) (by assumption) (by assumption) (by assumption) (by assumption)).trans (xim_go (by rw [nr0]; exact z)).symm)
theorem lf_X7_image_15 {nv0 : Int32} {nv1 : Int32} {nv2 : Int32} {nv3 : Int32} {nv5 : Int32} {nhh : Nat} {nww : Nat} {nkk : Nat} {ng1 : Nat → Int32} {ng2 : Nat → Int32} {ng3 : Nat → Int32} {ng4 : Nat → Int32} {ng5 : Nat → Int32} {fi : Nat → Option Nat} {i0 : Nat} {i0h : Nat} {i0w : Nat} {i0k : Nat} {i1 : Nat} {i1h : Nat} {i1w : Nat} {i1k : Nat} (nhb : nhh ≤ 999) (nwb : nww ≤ 6) (nkb : nkk ≤ 6) (hLv : okLv (nrm nv0 nv1 nv2 nv3 nhh nv5 nww nkk ng1 ng2 ng3 ng4 ng5)) (hi0 : fi 0 = some i0) (hi1 : fi 1 = some i1) (hg0 : i0h ≤ 999) (hg1 : i0w ≤ 6) (hg2 : i0k ≤ 6) (hg3 : i1h ≤ 999) (hg4 : i1w ≤ 6) (hg5 : i1k ≤ 6) (c_1 : ¬ ((0 : Int32) < 0)) (c_2 : (0 : Int32) < 2) (f_3_0_0 : ¬ 0 < nv0) : i1k ≤ 6 := by
  first
  | assumption
  | exact (xim_k (by decide)).symm
  | exact (xaim_b (Or.inl c_1)).symm
  | exact (xaim_b (Or.inr c_2)).symm
  | exact (xim_k (fun q => by subst q; exact absurd c_1 (by decide))).symm
  | exact (xim_k (fun q => by subst q; exact absurd c_2 (by decide))).symm
  | (have z := ((tX hLv nwb nkb (by omega)).1 (by assumption)).1
     first | exact (xim_0 (nr0.trans z)).symm | exact (xaim_0 (by decide) (nr0.trans z)).symm)
  | (have z := ((tX hLv nwb nkb (by omega)).2 (by assumption)).1
     first | exact (xaim_go (by decide) (by rw [nr0]; exact z)).symm | exact (nr_eq nwb nkb (by assumption) (by assumption) (by assumption) (by assumption) (by assumption)).trans (xim_go (by rw [nr0]; exact z)).symm)
theorem lf_X7_image_16 {nv0 : Int32} {nv1 : Int32} {nv2 : Int32} {nv3 : Int32} {nv5 : Int32} {nhh : Nat} {nww : Nat} {nkk : Nat} {ng1 : Nat → Int32} {ng2 : Nat → Int32} {ng3 : Nat → Int32} {ng4 : Nat → Int32} {ng5 : Nat → Int32} {fi : Nat → Option Nat} {i0 : Nat} {i0v0 : Int32} {i0v1 : Int32} {i0v2 : Int32} {i0v3 : Int32} {i0v5 : Int32} {i0h : Nat} {i0w : Nat} {i0k : Nat} {i0g1 : Nat → Int32} {i0g2 : Nat → Int32} {i0g3 : Nat → Int32} {i0g4 : Nat → Int32} {i0g5 : Nat → Int32} {i1 : Nat} {i1h : Nat} {i1w : Nat} {i1k : Nat} (nhb : nhh ≤ 999) (nwb : nww ≤ 6) (nkb : nkk ≤ 6) (hLv : okLv (nrm nv0 nv1 nv2 nv3 nhh nv5 nww nkk ng1 ng2 ng3 ng4 ng5)) (hi0 : fi 0 = some i0) (hi1 : fi 1 = some i1) (hg0 : i0h ≤ 999) (hg1 : i0w ≤ 6) (hg2 : i0k ≤ 6) (hg3 : i1h ≤ 999) (hg4 : i1w ≤ 6) (hg5 : i1k ≤ 6) (c_1 : ¬ ((0 : Int32) < 0)) (c_2 : (0 : Int32) < 2) (f_3_0_0 : ¬ 0 < nv0) : (nrm i0v0 i0v1 i0v2 i0v3 i0h i0v5 i0w i0k i0g1 i0g2 i0g3 i0g4 i0g5) = n_image (nrm nv0 nv1 nv2 nv3 nhh nv5 nww nkk ng1 ng2 ng3 ng4 ng5) (nrm i0v0 i0v1 i0v2 i0v3 i0h i0v5 i0w i0k i0g1 i0g2 i0g3 i0g4 i0g5) (0 : Int32) 0 := by
  first
  | assumption
  | exact (xim_k (by decide)).symm
  | exact (xaim_b (Or.inl c_1)).symm
  | exact (xaim_b (Or.inr c_2)).symm
  | exact (xim_k (fun q => by subst q; exact absurd c_1 (by decide))).symm
  | exact (xim_k (fun q => by subst q; exact absurd c_2 (by decide))).symm
  | (have z := ((tX hLv nwb nkb (by omega)).1 (by assumption)).1
     first | exact (xim_0 (nr0.trans z)).symm | exact (xaim_0 (by decide) (nr0.trans z)).symm)
  | (have z := ((tX hLv nwb nkb (by omega)).2 (by assumption)).1
     first | exact (xaim_go (by decide) (by rw [nr0]; exact z)).symm | exact (nr_eq nwb nkb (by assumption) (by assumption) (by assumption) (by assumption) (by assumption)).trans (xim_go (by rw [nr0]; exact z)).symm)
theorem lf_X7_image_17 {nv0 : Int32} {nv1 : Int32} {nv2 : Int32} {nv3 : Int32} {nv5 : Int32} {nhh : Nat} {nww : Nat} {nkk : Nat} {ng1 : Nat → Int32} {ng2 : Nat → Int32} {ng3 : Nat → Int32} {ng4 : Nat → Int32} {ng5 : Nat → Int32} {fi : Nat → Option Nat} {i0 : Nat} {i0h : Nat} {i0w : Nat} {i0k : Nat} {i1 : Nat} {i1v0 : Int32} {i1v1 : Int32} {i1v2 : Int32} {i1v3 : Int32} {i1v5 : Int32} {i1h : Nat} {i1w : Nat} {i1k : Nat} {i1g1 : Nat → Int32} {i1g2 : Nat → Int32} {i1g3 : Nat → Int32} {i1g4 : Nat → Int32} {i1g5 : Nat → Int32} (nhb : nhh ≤ 999) (nwb : nww ≤ 6) (nkb : nkk ≤ 6) (hLv : okLv (nrm nv0 nv1 nv2 nv3 nhh nv5 nww nkk ng1 ng2 ng3 ng4 ng5)) (hi0 : fi 0 = some i0) (hi1 : fi 1 = some i1) (hg0 : i0h ≤ 999) (hg1 : i0w ≤ 6) (hg2 : i0k ≤ 6) (hg3 : i1h ≤ 999) (hg4 : i1w ≤ 6) (hg5 : i1k ≤ 6) (c_1 : ¬ ((0 : Int32) < 0)) (c_2 : (0 : Int32) < 2) (f_3_0_0 : ¬ 0 < nv0) : (nrm i1v0 i1v1 i1v2 i1v3 i1h i1v5 i1w i1k i1g1 i1g2 i1g3 i1g4 i1g5) = n_image (nrm nv0 nv1 nv2 nv3 nhh nv5 nww nkk ng1 ng2 ng3 ng4 ng5) (nrm i1v0 i1v1 i1v2 i1v3 i1h i1v5 i1w i1k i1g1 i1g2 i1g3 i1g4 i1g5) (0 : Int32) 1 := by
  first
  | assumption
  | exact (xim_k (by decide)).symm
  | exact (xaim_b (Or.inl c_1)).symm
  | exact (xaim_b (Or.inr c_2)).symm
  | exact (xim_k (fun q => by subst q; exact absurd c_1 (by decide))).symm
  | exact (xim_k (fun q => by subst q; exact absurd c_2 (by decide))).symm
  | (have z := ((tX hLv nwb nkb (by omega)).1 (by assumption)).1
     first | exact (xim_0 (nr0.trans z)).symm | exact (xaim_0 (by decide) (nr0.trans z)).symm)
  | (have z := ((tX hLv nwb nkb (by omega)).2 (by assumption)).1
     first | exact (xaim_go (by decide) (by rw [nr0]; exact z)).symm | exact (nr_eq nwb nkb (by assumption) (by assumption) (by assumption) (by assumption) (by assumption)).trans (xim_go (by rw [nr0]; exact z)).symm)
theorem lf_X7_image_18 {nv0 : Int32} {nv1 : Int32} {nv2 : Int32} {nv3 : Int32} {nv5 : Int32} {nhh : Nat} {nww : Nat} {nkk : Nat} {ng1 : Nat → Int32} {ng2 : Nat → Int32} {ng3 : Nat → Int32} {ng4 : Nat → Int32} {ng5 : Nat → Int32} {fi : Nat → Option Nat} {i0 : Nat} {i0h : Nat} {i0w : Nat} {i0k : Nat} {i1 : Nat} {i1h : Nat} {i1w : Nat} {i1k : Nat} (nhb : nhh ≤ 999) (nwb : nww ≤ 6) (nkb : nkk ≤ 6) (hLv : okLv (nrm nv0 nv1 nv2 nv3 nhh nv5 nww nkk ng1 ng2 ng3 ng4 ng5)) (hi0 : fi 0 = some i0) (hi1 : fi 1 = some i1) (hg0 : i0h ≤ 999) (hg1 : i0w ≤ 6) (hg2 : i0k ≤ 6) (hg3 : i1h ≤ 999) (hg4 : i1w ≤ 6) (hg5 : i1k ≤ 6) (c_1 : ¬ ((0 : Int32) < 0)) (c_2 : (0 : Int32) < 2) (f_3_0_0 : ¬ 0 < nv0) : (-1000002) = (a_image (nrm nv0 nv1 nv2 nv3 nhh nv5 nww nkk ng1 ng2 ng3 ng4 ng5) (0 : Int32)) := by
  first
  | assumption
  | exact (xim_k (by decide)).symm
  | exact (xaim_b (Or.inl c_1)).symm
  | exact (xaim_b (Or.inr c_2)).symm
  | exact (xim_k (fun q => by subst q; exact absurd c_1 (by decide))).symm
  | exact (xim_k (fun q => by subst q; exact absurd c_2 (by decide))).symm
  | (have z := ((tX hLv nwb nkb (by omega)).1 (by assumption)).1
     first | exact (xim_0 (nr0.trans z)).symm | exact (xaim_0 (by decide) (nr0.trans z)).symm)
  | (have z := ((tX hLv nwb nkb (by omega)).2 (by assumption)).1
     first | exact (xaim_go (by decide) (by rw [nr0]; exact z)).symm | exact (nr_eq nwb nkb (by assumption) (by assumption) (by assumption) (by assumption) (by assumption)).trans (xim_go (by rw [nr0]; exact z)).symm)
theorem lf_X7_image_19 {nv0 : Int32} {nv1 : Int32} {nv2 : Int32} {nv3 : Int32} {nv5 : Int32} {nhh : Nat} {nww : Nat} {nkk : Nat} {ng1 : Nat → Int32} {ng2 : Nat → Int32} {ng3 : Nat → Int32} {ng4 : Nat → Int32} {ng5 : Nat → Int32} {fi : Nat → Option Nat} {i0 : Nat} {i0h : Nat} {i0w : Nat} {i0k : Nat} {i1 : Nat} {i1h : Nat} {i1w : Nat} {i1k : Nat} {f1n_6 : Nat → Int32} {f2n_6 : Nat → Int32} {f3n_6 : Nat → Int32} {f4n_6 : Nat → Int32} {f5n_6 : Nat → Int32} (nhb : nhh ≤ 999) (nwb : nww ≤ 6) (nkb : nkk ≤ 6) (hLv : okLv (nrm nv0 nv1 nv2 nv3 nhh nv5 nww nkk ng1 ng2 ng3 ng4 ng5)) (hi0 : fi 0 = some i0) (hi1 : fi 1 = some i1) (hg0 : i0h ≤ 999) (hg1 : i0w ≤ 6) (hg2 : i0k ≤ 6) (hg3 : i1h ≤ 999) (hg4 : i1w ≤ 6) (hg5 : i1k ≤ 6) (c_1 : ¬ ((0 : Int32) < 0)) (c_2 : (0 : Int32) < 2) (f_3_1_0 : 0 < nv0) (hF_6_0 : (∀ jq : Nat, jq < 6 → f1n_6 jq = ng1 jq)) (hF_6_1 : (∀ jq : Nat, jq < 6 → f2n_6 jq = ng2 jq)) (hF_6_2 : (∀ jq : Nat, jq < 6 → f3n_6 jq = ng3 jq)) (hF_6_3 : (∀ jq : Nat, jq < 6 → f4n_6 jq = ng4 jq)) (hF_6_4 : (∀ jq : Nat, jq < 6 → f5n_6 jq = ng5 jq)) : nhh ≤ 999 := by
  first
  | assumption
  | exact (xim_k (by decide)).symm
  | exact (xaim_b (Or.inl c_1)).symm
  | exact (xaim_b (Or.inr c_2)).symm
  | exact (xim_k (fun q => by subst q; exact absurd c_1 (by decide))).symm
  | exact (xim_k (fun q => by subst q; exact absurd c_2 (by decide))).symm
  | (have z := ((tX hLv nwb nkb (by omega)).1 (by assumption)).1
     first | exact (xim_0 (nr0.trans z)).symm | exact (xaim_0 (by decide) (nr0.trans z)).symm)
  | (have z := ((tX hLv nwb nkb (by omega)).2 (by assumption)).1
     first | exact (xaim_go (by decide) (by rw [nr0]; exact z)).symm | exact (nr_eq nwb nkb (by assumption) (by assumption) (by assumption) (by assumption) (by assumption)).trans (xim_go (by rw [nr0]; exact z)).symm)
theorem lf_X7_image_20 {nv0 : Int32} {nv1 : Int32} {nv2 : Int32} {nv3 : Int32} {nv5 : Int32} {nhh : Nat} {nww : Nat} {nkk : Nat} {ng1 : Nat → Int32} {ng2 : Nat → Int32} {ng3 : Nat → Int32} {ng4 : Nat → Int32} {ng5 : Nat → Int32} {fi : Nat → Option Nat} {i0 : Nat} {i0h : Nat} {i0w : Nat} {i0k : Nat} {i1 : Nat} {i1h : Nat} {i1w : Nat} {i1k : Nat} {f1n_6 : Nat → Int32} {f2n_6 : Nat → Int32} {f3n_6 : Nat → Int32} {f4n_6 : Nat → Int32} {f5n_6 : Nat → Int32} (nhb : nhh ≤ 999) (nwb : nww ≤ 6) (nkb : nkk ≤ 6) (hLv : okLv (nrm nv0 nv1 nv2 nv3 nhh nv5 nww nkk ng1 ng2 ng3 ng4 ng5)) (hi0 : fi 0 = some i0) (hi1 : fi 1 = some i1) (hg0 : i0h ≤ 999) (hg1 : i0w ≤ 6) (hg2 : i0k ≤ 6) (hg3 : i1h ≤ 999) (hg4 : i1w ≤ 6) (hg5 : i1k ≤ 6) (c_1 : ¬ ((0 : Int32) < 0)) (c_2 : (0 : Int32) < 2) (f_3_1_0 : 0 < nv0) (hF_6_0 : (∀ jq : Nat, jq < 6 → f1n_6 jq = ng1 jq)) (hF_6_1 : (∀ jq : Nat, jq < 6 → f2n_6 jq = ng2 jq)) (hF_6_2 : (∀ jq : Nat, jq < 6 → f3n_6 jq = ng3 jq)) (hF_6_3 : (∀ jq : Nat, jq < 6 → f4n_6 jq = ng4 jq)) (hF_6_4 : (∀ jq : Nat, jq < 6 → f5n_6 jq = ng5 jq)) : nww ≤ 6 := by
  first
  | assumption
  | exact (xim_k (by decide)).symm
  | exact (xaim_b (Or.inl c_1)).symm
  | exact (xaim_b (Or.inr c_2)).symm
  | exact (xim_k (fun q => by subst q; exact absurd c_1 (by decide))).symm
  | exact (xim_k (fun q => by subst q; exact absurd c_2 (by decide))).symm
  | (have z := ((tX hLv nwb nkb (by omega)).1 (by assumption)).1
     first | exact (xim_0 (nr0.trans z)).symm | exact (xaim_0 (by decide) (nr0.trans z)).symm)
  | (have z := ((tX hLv nwb nkb (by omega)).2 (by assumption)).1
     first | exact (xaim_go (by decide) (by rw [nr0]; exact z)).symm | exact (nr_eq nwb nkb (by assumption) (by assumption) (by assumption) (by assumption) (by assumption)).trans (xim_go (by rw [nr0]; exact z)).symm)
theorem lf_X7_image_21 {nv0 : Int32} {nv1 : Int32} {nv2 : Int32} {nv3 : Int32} {nv5 : Int32} {nhh : Nat} {nww : Nat} {nkk : Nat} {ng1 : Nat → Int32} {ng2 : Nat → Int32} {ng3 : Nat → Int32} {ng4 : Nat → Int32} {ng5 : Nat → Int32} {fi : Nat → Option Nat} {i0 : Nat} {i0h : Nat} {i0w : Nat} {i0k : Nat} {i1 : Nat} {i1h : Nat} {i1w : Nat} {i1k : Nat} {f1n_6 : Nat → Int32} {f2n_6 : Nat → Int32} {f3n_6 : Nat → Int32} {f4n_6 : Nat → Int32} {f5n_6 : Nat → Int32} (nhb : nhh ≤ 999) (nwb : nww ≤ 6) (nkb : nkk ≤ 6) (hLv : okLv (nrm nv0 nv1 nv2 nv3 nhh nv5 nww nkk ng1 ng2 ng3 ng4 ng5)) (hi0 : fi 0 = some i0) (hi1 : fi 1 = some i1) (hg0 : i0h ≤ 999) (hg1 : i0w ≤ 6) (hg2 : i0k ≤ 6) (hg3 : i1h ≤ 999) (hg4 : i1w ≤ 6) (hg5 : i1k ≤ 6) (c_1 : ¬ ((0 : Int32) < 0)) (c_2 : (0 : Int32) < 2) (f_3_1_0 : 0 < nv0) (hF_6_0 : (∀ jq : Nat, jq < 6 → f1n_6 jq = ng1 jq)) (hF_6_1 : (∀ jq : Nat, jq < 6 → f2n_6 jq = ng2 jq)) (hF_6_2 : (∀ jq : Nat, jq < 6 → f3n_6 jq = ng3 jq)) (hF_6_3 : (∀ jq : Nat, jq < 6 → f4n_6 jq = ng4 jq)) (hF_6_4 : (∀ jq : Nat, jq < 6 → f5n_6 jq = ng5 jq)) : nkk ≤ 6 := by
  first
  | assumption
  | exact (xim_k (by decide)).symm
  | exact (xaim_b (Or.inl c_1)).symm
  | exact (xaim_b (Or.inr c_2)).symm
  | exact (xim_k (fun q => by subst q; exact absurd c_1 (by decide))).symm
  | exact (xim_k (fun q => by subst q; exact absurd c_2 (by decide))).symm
  | (have z := ((tX hLv nwb nkb (by omega)).1 (by assumption)).1
     first | exact (xim_0 (nr0.trans z)).symm | exact (xaim_0 (by decide) (nr0.trans z)).symm)
  | (have z := ((tX hLv nwb nkb (by omega)).2 (by assumption)).1
     first | exact (xaim_go (by decide) (by rw [nr0]; exact z)).symm | exact (nr_eq nwb nkb (by assumption) (by assumption) (by assumption) (by assumption) (by assumption)).trans (xim_go (by rw [nr0]; exact z)).symm)
theorem lf_X7_image_22 {nv0 : Int32} {nv1 : Int32} {nv2 : Int32} {nv3 : Int32} {nv5 : Int32} {nhh : Nat} {nww : Nat} {nkk : Nat} {ng1 : Nat → Int32} {ng2 : Nat → Int32} {ng3 : Nat → Int32} {ng4 : Nat → Int32} {ng5 : Nat → Int32} {fi : Nat → Option Nat} {i0 : Nat} {i0h : Nat} {i0w : Nat} {i0k : Nat} {i1 : Nat} {i1h : Nat} {i1w : Nat} {i1k : Nat} {f1n_6 : Nat → Int32} {f2n_6 : Nat → Int32} {f3n_6 : Nat → Int32} {f4n_6 : Nat → Int32} {f5n_6 : Nat → Int32} (nhb : nhh ≤ 999) (nwb : nww ≤ 6) (nkb : nkk ≤ 6) (hLv : okLv (nrm nv0 nv1 nv2 nv3 nhh nv5 nww nkk ng1 ng2 ng3 ng4 ng5)) (hi0 : fi 0 = some i0) (hi1 : fi 1 = some i1) (hg0 : i0h ≤ 999) (hg1 : i0w ≤ 6) (hg2 : i0k ≤ 6) (hg3 : i1h ≤ 999) (hg4 : i1w ≤ 6) (hg5 : i1k ≤ 6) (c_1 : ¬ ((0 : Int32) < 0)) (c_2 : (0 : Int32) < 2) (f_3_1_0 : 0 < nv0) (hF_6_0 : (∀ jq : Nat, jq < 6 → f1n_6 jq = ng1 jq)) (hF_6_1 : (∀ jq : Nat, jq < 6 → f2n_6 jq = ng2 jq)) (hF_6_2 : (∀ jq : Nat, jq < 6 → f3n_6 jq = ng3 jq)) (hF_6_3 : (∀ jq : Nat, jq < 6 → f4n_6 jq = ng4 jq)) (hF_6_4 : (∀ jq : Nat, jq < 6 → f5n_6 jq = ng5 jq)) : i1h ≤ 999 := by
  first
  | assumption
  | exact (xim_k (by decide)).symm
  | exact (xaim_b (Or.inl c_1)).symm
  | exact (xaim_b (Or.inr c_2)).symm
  | exact (xim_k (fun q => by subst q; exact absurd c_1 (by decide))).symm
  | exact (xim_k (fun q => by subst q; exact absurd c_2 (by decide))).symm
  | (have z := ((tX hLv nwb nkb (by omega)).1 (by assumption)).1
     first | exact (xim_0 (nr0.trans z)).symm | exact (xaim_0 (by decide) (nr0.trans z)).symm)
  | (have z := ((tX hLv nwb nkb (by omega)).2 (by assumption)).1
     first | exact (xaim_go (by decide) (by rw [nr0]; exact z)).symm | exact (nr_eq nwb nkb (by assumption) (by assumption) (by assumption) (by assumption) (by assumption)).trans (xim_go (by rw [nr0]; exact z)).symm)
theorem lf_X7_image_23 {nv0 : Int32} {nv1 : Int32} {nv2 : Int32} {nv3 : Int32} {nv5 : Int32} {nhh : Nat} {nww : Nat} {nkk : Nat} {ng1 : Nat → Int32} {ng2 : Nat → Int32} {ng3 : Nat → Int32} {ng4 : Nat → Int32} {ng5 : Nat → Int32} {fi : Nat → Option Nat} {i0 : Nat} {i0h : Nat} {i0w : Nat} {i0k : Nat} {i1 : Nat} {i1h : Nat} {i1w : Nat} {i1k : Nat} {f1n_6 : Nat → Int32} {f2n_6 : Nat → Int32} {f3n_6 : Nat → Int32} {f4n_6 : Nat → Int32} {f5n_6 : Nat → Int32} (nhb : nhh ≤ 999) (nwb : nww ≤ 6) (nkb : nkk ≤ 6) (hLv : okLv (nrm nv0 nv1 nv2 nv3 nhh nv5 nww nkk ng1 ng2 ng3 ng4 ng5)) (hi0 : fi 0 = some i0) (hi1 : fi 1 = some i1) (hg0 : i0h ≤ 999) (hg1 : i0w ≤ 6) (hg2 : i0k ≤ 6) (hg3 : i1h ≤ 999) (hg4 : i1w ≤ 6) (hg5 : i1k ≤ 6) (c_1 : ¬ ((0 : Int32) < 0)) (c_2 : (0 : Int32) < 2) (f_3_1_0 : 0 < nv0) (hF_6_0 : (∀ jq : Nat, jq < 6 → f1n_6 jq = ng1 jq)) (hF_6_1 : (∀ jq : Nat, jq < 6 → f2n_6 jq = ng2 jq)) (hF_6_2 : (∀ jq : Nat, jq < 6 → f3n_6 jq = ng3 jq)) (hF_6_3 : (∀ jq : Nat, jq < 6 → f4n_6 jq = ng4 jq)) (hF_6_4 : (∀ jq : Nat, jq < 6 → f5n_6 jq = ng5 jq)) : i1w ≤ 6 := by
  first
  | assumption
  | exact (xim_k (by decide)).symm
  | exact (xaim_b (Or.inl c_1)).symm
  | exact (xaim_b (Or.inr c_2)).symm
  | exact (xim_k (fun q => by subst q; exact absurd c_1 (by decide))).symm
  | exact (xim_k (fun q => by subst q; exact absurd c_2 (by decide))).symm
  | (have z := ((tX hLv nwb nkb (by omega)).1 (by assumption)).1
     first | exact (xim_0 (nr0.trans z)).symm | exact (xaim_0 (by decide) (nr0.trans z)).symm)
  | (have z := ((tX hLv nwb nkb (by omega)).2 (by assumption)).1
     first | exact (xaim_go (by decide) (by rw [nr0]; exact z)).symm | exact (nr_eq nwb nkb (by assumption) (by assumption) (by assumption) (by assumption) (by assumption)).trans (xim_go (by rw [nr0]; exact z)).symm)
theorem lf_X7_image_24 {nv0 : Int32} {nv1 : Int32} {nv2 : Int32} {nv3 : Int32} {nv5 : Int32} {nhh : Nat} {nww : Nat} {nkk : Nat} {ng1 : Nat → Int32} {ng2 : Nat → Int32} {ng3 : Nat → Int32} {ng4 : Nat → Int32} {ng5 : Nat → Int32} {fi : Nat → Option Nat} {i0 : Nat} {i0h : Nat} {i0w : Nat} {i0k : Nat} {i1 : Nat} {i1h : Nat} {i1w : Nat} {i1k : Nat} {f1n_6 : Nat → Int32} {f2n_6 : Nat → Int32} {f3n_6 : Nat → Int32} {f4n_6 : Nat → Int32} {f5n_6 : Nat → Int32} (nhb : nhh ≤ 999) (nwb : nww ≤ 6) (nkb : nkk ≤ 6) (hLv : okLv (nrm nv0 nv1 nv2 nv3 nhh nv5 nww nkk ng1 ng2 ng3 ng4 ng5)) (hi0 : fi 0 = some i0) (hi1 : fi 1 = some i1) (hg0 : i0h ≤ 999) (hg1 : i0w ≤ 6) (hg2 : i0k ≤ 6) (hg3 : i1h ≤ 999) (hg4 : i1w ≤ 6) (hg5 : i1k ≤ 6) (c_1 : ¬ ((0 : Int32) < 0)) (c_2 : (0 : Int32) < 2) (f_3_1_0 : 0 < nv0) (hF_6_0 : (∀ jq : Nat, jq < 6 → f1n_6 jq = ng1 jq)) (hF_6_1 : (∀ jq : Nat, jq < 6 → f2n_6 jq = ng2 jq)) (hF_6_2 : (∀ jq : Nat, jq < 6 → f3n_6 jq = ng3 jq)) (hF_6_3 : (∀ jq : Nat, jq < 6 → f4n_6 jq = ng4 jq)) (hF_6_4 : (∀ jq : Nat, jq < 6 → f5n_6 jq = ng5 jq)) : i1k ≤ 6 := by
  first
  | assumption
  | exact (xim_k (by decide)).symm
  | exact (xaim_b (Or.inl c_1)).symm
  | exact (xaim_b (Or.inr c_2)).symm
  | exact (xim_k (fun q => by subst q; exact absurd c_1 (by decide))).symm
  | exact (xim_k (fun q => by subst q; exact absurd c_2 (by decide))).symm
  | (have z := ((tX hLv nwb nkb (by omega)).1 (by assumption)).1
     first | exact (xim_0 (nr0.trans z)).symm | exact (xaim_0 (by decide) (nr0.trans z)).symm)
  | (have z := ((tX hLv nwb nkb (by omega)).2 (by assumption)).1
     first | exact (xaim_go (by decide) (by rw [nr0]; exact z)).symm | exact (nr_eq nwb nkb (by assumption) (by assumption) (by assumption) (by assumption) (by assumption)).trans (xim_go (by rw [nr0]; exact z)).symm)
theorem lf_X7_image_25 {nv0 : Int32} {nv1 : Int32} {nv2 : Int32} {nv3 : Int32} {nv5 : Int32} {nhh : Nat} {nww : Nat} {nkk : Nat} {ng1 : Nat → Int32} {ng2 : Nat → Int32} {ng3 : Nat → Int32} {ng4 : Nat → Int32} {ng5 : Nat → Int32} {fi : Nat → Option Nat} {i0 : Nat} {i0v0 : Int32} {i0v1 : Int32} {i0v2 : Int32} {i0v3 : Int32} {i0v5 : Int32} {i0h : Nat} {i0w : Nat} {i0k : Nat} {i0g1 : Nat → Int32} {i0g2 : Nat → Int32} {i0g3 : Nat → Int32} {i0g4 : Nat → Int32} {i0g5 : Nat → Int32} {i1 : Nat} {i1h : Nat} {i1w : Nat} {i1k : Nat} {f1n_6 : Nat → Int32} {f2n_6 : Nat → Int32} {f3n_6 : Nat → Int32} {f4n_6 : Nat → Int32} {f5n_6 : Nat → Int32} (nhb : nhh ≤ 999) (nwb : nww ≤ 6) (nkb : nkk ≤ 6) (hLv : okLv (nrm nv0 nv1 nv2 nv3 nhh nv5 nww nkk ng1 ng2 ng3 ng4 ng5)) (hi0 : fi 0 = some i0) (hi1 : fi 1 = some i1) (hg0 : i0h ≤ 999) (hg1 : i0w ≤ 6) (hg2 : i0k ≤ 6) (hg3 : i1h ≤ 999) (hg4 : i1w ≤ 6) (hg5 : i1k ≤ 6) (c_1 : ¬ ((0 : Int32) < 0)) (c_2 : (0 : Int32) < 2) (f_3_1_0 : 0 < nv0) (hF_6_0 : (∀ jq : Nat, jq < 6 → f1n_6 jq = ng1 jq)) (hF_6_1 : (∀ jq : Nat, jq < 6 → f2n_6 jq = ng2 jq)) (hF_6_2 : (∀ jq : Nat, jq < 6 → f3n_6 jq = ng3 jq)) (hF_6_3 : (∀ jq : Nat, jq < 6 → f4n_6 jq = ng4 jq)) (hF_6_4 : (∀ jq : Nat, jq < 6 → f5n_6 jq = ng5 jq)) : (nrm nv0 nv1 nv2 nv3 nhh nv5 nww nkk f1n_6 f2n_6 f3n_6 f4n_6 f5n_6) = n_image (nrm nv0 nv1 nv2 nv3 nhh nv5 nww nkk ng1 ng2 ng3 ng4 ng5) (nrm i0v0 i0v1 i0v2 i0v3 i0h i0v5 i0w i0k i0g1 i0g2 i0g3 i0g4 i0g5) (0 : Int32) 0 := by
  first
  | assumption
  | exact (xim_k (by decide)).symm
  | exact (xaim_b (Or.inl c_1)).symm
  | exact (xaim_b (Or.inr c_2)).symm
  | exact (xim_k (fun q => by subst q; exact absurd c_1 (by decide))).symm
  | exact (xim_k (fun q => by subst q; exact absurd c_2 (by decide))).symm
  | (have z := ((tX hLv nwb nkb (by omega)).1 (by assumption)).1
     first | exact (xim_0 (nr0.trans z)).symm | exact (xaim_0 (by decide) (nr0.trans z)).symm)
  | (have z := ((tX hLv nwb nkb (by omega)).2 (by assumption)).1
     first | exact (xaim_go (by decide) (by rw [nr0]; exact z)).symm | exact (nr_eq nwb nkb (by assumption) (by assumption) (by assumption) (by assumption) (by assumption)).trans (xim_go (by rw [nr0]; exact z)).symm)
theorem lf_X7_image_26 {nv0 : Int32} {nv1 : Int32} {nv2 : Int32} {nv3 : Int32} {nv5 : Int32} {nhh : Nat} {nww : Nat} {nkk : Nat} {ng1 : Nat → Int32} {ng2 : Nat → Int32} {ng3 : Nat → Int32} {ng4 : Nat → Int32} {ng5 : Nat → Int32} {fi : Nat → Option Nat} {i0 : Nat} {i0h : Nat} {i0w : Nat} {i0k : Nat} {i1 : Nat} {i1v0 : Int32} {i1v1 : Int32} {i1v2 : Int32} {i1v3 : Int32} {i1v5 : Int32} {i1h : Nat} {i1w : Nat} {i1k : Nat} {i1g1 : Nat → Int32} {i1g2 : Nat → Int32} {i1g3 : Nat → Int32} {i1g4 : Nat → Int32} {i1g5 : Nat → Int32} {f1n_6 : Nat → Int32} {f2n_6 : Nat → Int32} {f3n_6 : Nat → Int32} {f4n_6 : Nat → Int32} {f5n_6 : Nat → Int32} (nhb : nhh ≤ 999) (nwb : nww ≤ 6) (nkb : nkk ≤ 6) (hLv : okLv (nrm nv0 nv1 nv2 nv3 nhh nv5 nww nkk ng1 ng2 ng3 ng4 ng5)) (hi0 : fi 0 = some i0) (hi1 : fi 1 = some i1) (hg0 : i0h ≤ 999) (hg1 : i0w ≤ 6) (hg2 : i0k ≤ 6) (hg3 : i1h ≤ 999) (hg4 : i1w ≤ 6) (hg5 : i1k ≤ 6) (c_1 : ¬ ((0 : Int32) < 0)) (c_2 : (0 : Int32) < 2) (f_3_1_0 : 0 < nv0) (hF_6_0 : (∀ jq : Nat, jq < 6 → f1n_6 jq = ng1 jq)) (hF_6_1 : (∀ jq : Nat, jq < 6 → f2n_6 jq = ng2 jq)) (hF_6_2 : (∀ jq : Nat, jq < 6 → f3n_6 jq = ng3 jq)) (hF_6_3 : (∀ jq : Nat, jq < 6 → f4n_6 jq = ng4 jq)) (hF_6_4 : (∀ jq : Nat, jq < 6 → f5n_6 jq = ng5 jq)) : (nrm i1v0 i1v1 i1v2 i1v3 i1h i1v5 i1w i1k i1g1 i1g2 i1g3 i1g4 i1g5) = n_image (nrm nv0 nv1 nv2 nv3 nhh nv5 nww nkk ng1 ng2 ng3 ng4 ng5) (nrm i1v0 i1v1 i1v2 i1v3 i1h i1v5 i1w i1k i1g1 i1g2 i1g3 i1g4 i1g5) (0 : Int32) 1 := by
  first
  | assumption
  | exact (xim_k (by decide)).symm
  | exact (xaim_b (Or.inl c_1)).symm
  | exact (xaim_b (Or.inr c_2)).symm
  | exact (xim_k (fun q => by subst q; exact absurd c_1 (by decide))).symm
  | exact (xim_k (fun q => by subst q; exact absurd c_2 (by decide))).symm
  | (have z := ((tX hLv nwb nkb (by omega)).1 (by assumption)).1
     first | exact (xim_0 (nr0.trans z)).symm | exact (xaim_0 (by decide) (nr0.trans z)).symm)
  | (have z := ((tX hLv nwb nkb (by omega)).2 (by assumption)).1
     first | exact (xaim_go (by decide) (by rw [nr0]; exact z)).symm | exact (nr_eq nwb nkb (by assumption) (by assumption) (by assumption) (by assumption) (by assumption)).trans (xim_go (by rw [nr0]; exact z)).symm)
theorem lf_X7_image_27 {nv0 : Int32} {nv1 : Int32} {nv2 : Int32} {nv3 : Int32} {nv5 : Int32} {nhh : Nat} {nww : Nat} {nkk : Nat} {ng1 : Nat → Int32} {ng2 : Nat → Int32} {ng3 : Nat → Int32} {ng4 : Nat → Int32} {ng5 : Nat → Int32} {fi : Nat → Option Nat} {i0 : Nat} {i0h : Nat} {i0w : Nat} {i0k : Nat} {i1 : Nat} {i1h : Nat} {i1w : Nat} {i1k : Nat} {f1n_6 : Nat → Int32} {f2n_6 : Nat → Int32} {f3n_6 : Nat → Int32} {f4n_6 : Nat → Int32} {f5n_6 : Nat → Int32} (nhb : nhh ≤ 999) (nwb : nww ≤ 6) (nkb : nkk ≤ 6) (hLv : okLv (nrm nv0 nv1 nv2 nv3 nhh nv5 nww nkk ng1 ng2 ng3 ng4 ng5)) (hi0 : fi 0 = some i0) (hi1 : fi 1 = some i1) (hg0 : i0h ≤ 999) (hg1 : i0w ≤ 6) (hg2 : i0k ≤ 6) (hg3 : i1h ≤ 999) (hg4 : i1w ≤ 6) (hg5 : i1k ≤ 6) (c_1 : ¬ ((0 : Int32) < 0)) (c_2 : (0 : Int32) < 2) (f_3_1_0 : 0 < nv0) (hF_6_0 : (∀ jq : Nat, jq < 6 → f1n_6 jq = ng1 jq)) (hF_6_1 : (∀ jq : Nat, jq < 6 → f2n_6 jq = ng2 jq)) (hF_6_2 : (∀ jq : Nat, jq < 6 → f3n_6 jq = ng3 jq)) (hF_6_3 : (∀ jq : Nat, jq < 6 → f4n_6 jq = ng4 jq)) (hF_6_4 : (∀ jq : Nat, jq < 6 → f5n_6 jq = ng5 jq)) : 1 = (a_image (nrm nv0 nv1 nv2 nv3 nhh nv5 nww nkk ng1 ng2 ng3 ng4 ng5) (0 : Int32)) := by
  first
  | assumption
  | exact (xim_k (by decide)).symm
  | exact (xaim_b (Or.inl c_1)).symm
  | exact (xaim_b (Or.inr c_2)).symm
  | exact (xim_k (fun q => by subst q; exact absurd c_1 (by decide))).symm
  | exact (xim_k (fun q => by subst q; exact absurd c_2 (by decide))).symm
  | (have z := ((tX hLv nwb nkb (by omega)).1 (by assumption)).1
     first | exact (xim_0 (nr0.trans z)).symm | exact (xaim_0 (by decide) (nr0.trans z)).symm)
  | (have z := ((tX hLv nwb nkb (by omega)).2 (by assumption)).1
     first | exact (xaim_go (by decide) (by rw [nr0]; exact z)).symm | exact (nr_eq nwb nkb (by assumption) (by assumption) (by assumption) (by assumption) (by assumption)).trans (xim_go (by rw [nr0]; exact z)).symm)
theorem lf_X7_image_28 {nv0 : Int32} {nv1 : Int32} {nv2 : Int32} {nv3 : Int32} {nv5 : Int32} {nhh : Nat} {nww : Nat} {nkk : Nat} {ng1 : Nat → Int32} {ng2 : Nat → Int32} {ng3 : Nat → Int32} {ng4 : Nat → Int32} {ng5 : Nat → Int32} {fi : Nat → Option Nat} {i0 : Nat} {i0h : Nat} {i0w : Nat} {i0k : Nat} {i1 : Nat} {i1h : Nat} {i1w : Nat} {i1k : Nat} (nhb : nhh ≤ 999) (nwb : nww ≤ 6) (nkb : nkk ≤ 6) (hLv : okLv (nrm nv0 nv1 nv2 nv3 nhh nv5 nww nkk ng1 ng2 ng3 ng4 ng5)) (hi0 : fi 0 = some i0) (hi1 : fi 1 = some i1) (hg0 : i0h ≤ 999) (hg1 : i0w ≤ 6) (hg2 : i0k ≤ 6) (hg3 : i1h ≤ 999) (hg4 : i1w ≤ 6) (hg5 : i1k ≤ 6) (c_1 : ¬ ((1 : Int32) < 0)) (c_2 : (1 : Int32) < 2) (f_7_0_0 : ¬ 0 < nv0) : i0h ≤ 999 := by
  first
  | assumption
  | exact (xim_k (by decide)).symm
  | exact (xaim_b (Or.inl c_1)).symm
  | exact (xaim_b (Or.inr c_2)).symm
  | exact (xim_k (fun q => by subst q; exact absurd c_1 (by decide))).symm
  | exact (xim_k (fun q => by subst q; exact absurd c_2 (by decide))).symm
  | (have z := ((tX hLv nwb nkb (by omega)).1 (by assumption)).1
     first | exact (xim_0 (nr0.trans z)).symm | exact (xaim_0 (by decide) (nr0.trans z)).symm)
  | (have z := ((tX hLv nwb nkb (by omega)).2 (by assumption)).1
     first | exact (xaim_go (by decide) (by rw [nr0]; exact z)).symm | exact (nr_eq nwb nkb (by assumption) (by assumption) (by assumption) (by assumption) (by assumption)).trans (xim_go (by rw [nr0]; exact z)).symm)
theorem lf_X7_image_29 {nv0 : Int32} {nv1 : Int32} {nv2 : Int32} {nv3 : Int32} {nv5 : Int32} {nhh : Nat} {nww : Nat} {nkk : Nat} {ng1 : Nat → Int32} {ng2 : Nat → Int32} {ng3 : Nat → Int32} {ng4 : Nat → Int32} {ng5 : Nat → Int32} {fi : Nat → Option Nat} {i0 : Nat} {i0h : Nat} {i0w : Nat} {i0k : Nat} {i1 : Nat} {i1h : Nat} {i1w : Nat} {i1k : Nat} (nhb : nhh ≤ 999) (nwb : nww ≤ 6) (nkb : nkk ≤ 6) (hLv : okLv (nrm nv0 nv1 nv2 nv3 nhh nv5 nww nkk ng1 ng2 ng3 ng4 ng5)) (hi0 : fi 0 = some i0) (hi1 : fi 1 = some i1) (hg0 : i0h ≤ 999) (hg1 : i0w ≤ 6) (hg2 : i0k ≤ 6) (hg3 : i1h ≤ 999) (hg4 : i1w ≤ 6) (hg5 : i1k ≤ 6) (c_1 : ¬ ((1 : Int32) < 0)) (c_2 : (1 : Int32) < 2) (f_7_0_0 : ¬ 0 < nv0) : i0w ≤ 6 := by
  first
  | assumption
  | exact (xim_k (by decide)).symm
  | exact (xaim_b (Or.inl c_1)).symm
  | exact (xaim_b (Or.inr c_2)).symm
  | exact (xim_k (fun q => by subst q; exact absurd c_1 (by decide))).symm
  | exact (xim_k (fun q => by subst q; exact absurd c_2 (by decide))).symm
  | (have z := ((tX hLv nwb nkb (by omega)).1 (by assumption)).1
     first | exact (xim_0 (nr0.trans z)).symm | exact (xaim_0 (by decide) (nr0.trans z)).symm)
  | (have z := ((tX hLv nwb nkb (by omega)).2 (by assumption)).1
     first | exact (xaim_go (by decide) (by rw [nr0]; exact z)).symm | exact (nr_eq nwb nkb (by assumption) (by assumption) (by assumption) (by assumption) (by assumption)).trans (xim_go (by rw [nr0]; exact z)).symm)
theorem lf_X7_image_30 {nv0 : Int32} {nv1 : Int32} {nv2 : Int32} {nv3 : Int32} {nv5 : Int32} {nhh : Nat} {nww : Nat} {nkk : Nat} {ng1 : Nat → Int32} {ng2 : Nat → Int32} {ng3 : Nat → Int32} {ng4 : Nat → Int32} {ng5 : Nat → Int32} {fi : Nat → Option Nat} {i0 : Nat} {i0h : Nat} {i0w : Nat} {i0k : Nat} {i1 : Nat} {i1h : Nat} {i1w : Nat} {i1k : Nat} (nhb : nhh ≤ 999) (nwb : nww ≤ 6) (nkb : nkk ≤ 6) (hLv : okLv (nrm nv0 nv1 nv2 nv3 nhh nv5 nww nkk ng1 ng2 ng3 ng4 ng5)) (hi0 : fi 0 = some i0) (hi1 : fi 1 = some i1) (hg0 : i0h ≤ 999) (hg1 : i0w ≤ 6) (hg2 : i0k ≤ 6) (hg3 : i1h ≤ 999) (hg4 : i1w ≤ 6) (hg5 : i1k ≤ 6) (c_1 : ¬ ((1 : Int32) < 0)) (c_2 : (1 : Int32) < 2) (f_7_0_0 : ¬ 0 < nv0) : i0k ≤ 6 := by
  first
  | assumption
  | exact (xim_k (by decide)).symm
  | exact (xaim_b (Or.inl c_1)).symm
  | exact (xaim_b (Or.inr c_2)).symm
  | exact (xim_k (fun q => by subst q; exact absurd c_1 (by decide))).symm
  | exact (xim_k (fun q => by subst q; exact absurd c_2 (by decide))).symm
  | (have z := ((tX hLv nwb nkb (by omega)).1 (by assumption)).1
     first | exact (xim_0 (nr0.trans z)).symm | exact (xaim_0 (by decide) (nr0.trans z)).symm)
  | (have z := ((tX hLv nwb nkb (by omega)).2 (by assumption)).1
     first | exact (xaim_go (by decide) (by rw [nr0]; exact z)).symm | exact (nr_eq nwb nkb (by assumption) (by assumption) (by assumption) (by assumption) (by assumption)).trans (xim_go (by rw [nr0]; exact z)).symm)
theorem lf_X7_image_31 {nv0 : Int32} {nv1 : Int32} {nv2 : Int32} {nv3 : Int32} {nv5 : Int32} {nhh : Nat} {nww : Nat} {nkk : Nat} {ng1 : Nat → Int32} {ng2 : Nat → Int32} {ng3 : Nat → Int32} {ng4 : Nat → Int32} {ng5 : Nat → Int32} {fi : Nat → Option Nat} {i0 : Nat} {i0h : Nat} {i0w : Nat} {i0k : Nat} {i1 : Nat} {i1h : Nat} {i1w : Nat} {i1k : Nat} (nhb : nhh ≤ 999) (nwb : nww ≤ 6) (nkb : nkk ≤ 6) (hLv : okLv (nrm nv0 nv1 nv2 nv3 nhh nv5 nww nkk ng1 ng2 ng3 ng4 ng5)) (hi0 : fi 0 = some i0) (hi1 : fi 1 = some i1) (hg0 : i0h ≤ 999) (hg1 : i0w ≤ 6) (hg2 : i0k ≤ 6) (hg3 : i1h ≤ 999) (hg4 : i1w ≤ 6) (hg5 : i1k ≤ 6) (c_1 : ¬ ((1 : Int32) < 0)) (c_2 : (1 : Int32) < 2) (f_7_0_0 : ¬ 0 < nv0) : i1h ≤ 999 := by
  first
  | assumption
  | exact (xim_k (by decide)).symm
  | exact (xaim_b (Or.inl c_1)).symm
  | exact (xaim_b (Or.inr c_2)).symm
  | exact (xim_k (fun q => by subst q; exact absurd c_1 (by decide))).symm
  | exact (xim_k (fun q => by subst q; exact absurd c_2 (by decide))).symm
  | (have z := ((tX hLv nwb nkb (by omega)).1 (by assumption)).1
     first | exact (xim_0 (nr0.trans z)).symm | exact (xaim_0 (by decide) (nr0.trans z)).symm)
  | (have z := ((tX hLv nwb nkb (by omega)).2 (by assumption)).1
     first | exact (xaim_go (by decide) (by rw [nr0]; exact z)).symm | exact (nr_eq nwb nkb (by assumption) (by assumption) (by assumption) (by assumption) (by assumption)).trans (xim_go (by rw [nr0]; exact z)).symm)
theorem lf_X7_image_32 {nv0 : Int32} {nv1 : Int32} {nv2 : Int32} {nv3 : Int32} {nv5 : Int32} {nhh : Nat} {nww : Nat} {nkk : Nat} {ng1 : Nat → Int32} {ng2 : Nat → Int32} {ng3 : Nat → Int32} {ng4 : Nat → Int32} {ng5 : Nat → Int32} {fi : Nat → Option Nat} {i0 : Nat} {i0h : Nat} {i0w : Nat} {i0k : Nat} {i1 : Nat} {i1h : Nat} {i1w : Nat} {i1k : Nat} (nhb : nhh ≤ 999) (nwb : nww ≤ 6) (nkb : nkk ≤ 6) (hLv : okLv (nrm nv0 nv1 nv2 nv3 nhh nv5 nww nkk ng1 ng2 ng3 ng4 ng5)) (hi0 : fi 0 = some i0) (hi1 : fi 1 = some i1) (hg0 : i0h ≤ 999) (hg1 : i0w ≤ 6) (hg2 : i0k ≤ 6) (hg3 : i1h ≤ 999) (hg4 : i1w ≤ 6) (hg5 : i1k ≤ 6) (c_1 : ¬ ((1 : Int32) < 0)) (c_2 : (1 : Int32) < 2) (f_7_0_0 : ¬ 0 < nv0) : i1w ≤ 6 := by
  first
  | assumption
  | exact (xim_k (by decide)).symm
  | exact (xaim_b (Or.inl c_1)).symm
  | exact (xaim_b (Or.inr c_2)).symm
  | exact (xim_k (fun q => by subst q; exact absurd c_1 (by decide))).symm
  | exact (xim_k (fun q => by subst q; exact absurd c_2 (by decide))).symm
  | (have z := ((tX hLv nwb nkb (by omega)).1 (by assumption)).1
     first | exact (xim_0 (nr0.trans z)).symm | exact (xaim_0 (by decide) (nr0.trans z)).symm)
  | (have z := ((tX hLv nwb nkb (by omega)).2 (by assumption)).1
     first | exact (xaim_go (by decide) (by rw [nr0]; exact z)).symm | exact (nr_eq nwb nkb (by assumption) (by assumption) (by assumption) (by assumption) (by assumption)).trans (xim_go (by rw [nr0]; exact z)).symm)
theorem lf_X7_image_33 {nv0 : Int32} {nv1 : Int32} {nv2 : Int32} {nv3 : Int32} {nv5 : Int32} {nhh : Nat} {nww : Nat} {nkk : Nat} {ng1 : Nat → Int32} {ng2 : Nat → Int32} {ng3 : Nat → Int32} {ng4 : Nat → Int32} {ng5 : Nat → Int32} {fi : Nat → Option Nat} {i0 : Nat} {i0h : Nat} {i0w : Nat} {i0k : Nat} {i1 : Nat} {i1h : Nat} {i1w : Nat} {i1k : Nat} (nhb : nhh ≤ 999) (nwb : nww ≤ 6) (nkb : nkk ≤ 6) (hLv : okLv (nrm nv0 nv1 nv2 nv3 nhh nv5 nww nkk ng1 ng2 ng3 ng4 ng5)) (hi0 : fi 0 = some i0) (hi1 : fi 1 = some i1) (hg0 : i0h ≤ 999) (hg1 : i0w ≤ 6) (hg2 : i0k ≤ 6) (hg3 : i1h ≤ 999) (hg4 : i1w ≤ 6) (hg5 : i1k ≤ 6) (c_1 : ¬ ((1 : Int32) < 0)) (c_2 : (1 : Int32) < 2) (f_7_0_0 : ¬ 0 < nv0) : i1k ≤ 6 := by
  first
  | assumption
  | exact (xim_k (by decide)).symm
  | exact (xaim_b (Or.inl c_1)).symm
  | exact (xaim_b (Or.inr c_2)).symm
  | exact (xim_k (fun q => by subst q; exact absurd c_1 (by decide))).symm
  | exact (xim_k (fun q => by subst q; exact absurd c_2 (by decide))).symm
  | (have z := ((tX hLv nwb nkb (by omega)).1 (by assumption)).1
     first | exact (xim_0 (nr0.trans z)).symm | exact (xaim_0 (by decide) (nr0.trans z)).symm)
  | (have z := ((tX hLv nwb nkb (by omega)).2 (by assumption)).1
     first | exact (xaim_go (by decide) (by rw [nr0]; exact z)).symm | exact (nr_eq nwb nkb (by assumption) (by assumption) (by assumption) (by assumption) (by assumption)).trans (xim_go (by rw [nr0]; exact z)).symm)
theorem lf_X7_image_34 {nv0 : Int32} {nv1 : Int32} {nv2 : Int32} {nv3 : Int32} {nv5 : Int32} {nhh : Nat} {nww : Nat} {nkk : Nat} {ng1 : Nat → Int32} {ng2 : Nat → Int32} {ng3 : Nat → Int32} {ng4 : Nat → Int32} {ng5 : Nat → Int32} {fi : Nat → Option Nat} {i0 : Nat} {i0v0 : Int32} {i0v1 : Int32} {i0v2 : Int32} {i0v3 : Int32} {i0v5 : Int32} {i0h : Nat} {i0w : Nat} {i0k : Nat} {i0g1 : Nat → Int32} {i0g2 : Nat → Int32} {i0g3 : Nat → Int32} {i0g4 : Nat → Int32} {i0g5 : Nat → Int32} {i1 : Nat} {i1h : Nat} {i1w : Nat} {i1k : Nat} (nhb : nhh ≤ 999) (nwb : nww ≤ 6) (nkb : nkk ≤ 6) (hLv : okLv (nrm nv0 nv1 nv2 nv3 nhh nv5 nww nkk ng1 ng2 ng3 ng4 ng5)) (hi0 : fi 0 = some i0) (hi1 : fi 1 = some i1) (hg0 : i0h ≤ 999) (hg1 : i0w ≤ 6) (hg2 : i0k ≤ 6) (hg3 : i1h ≤ 999) (hg4 : i1w ≤ 6) (hg5 : i1k ≤ 6) (c_1 : ¬ ((1 : Int32) < 0)) (c_2 : (1 : Int32) < 2) (f_7_0_0 : ¬ 0 < nv0) : (nrm i0v0 i0v1 i0v2 i0v3 i0h i0v5 i0w i0k i0g1 i0g2 i0g3 i0g4 i0g5) = n_image (nrm nv0 nv1 nv2 nv3 nhh nv5 nww nkk ng1 ng2 ng3 ng4 ng5) (nrm i0v0 i0v1 i0v2 i0v3 i0h i0v5 i0w i0k i0g1 i0g2 i0g3 i0g4 i0g5) (1 : Int32) 0 := by
  first
  | assumption
  | exact (xim_k (by decide)).symm
  | exact (xaim_b (Or.inl c_1)).symm
  | exact (xaim_b (Or.inr c_2)).symm
  | exact (xim_k (fun q => by subst q; exact absurd c_1 (by decide))).symm
  | exact (xim_k (fun q => by subst q; exact absurd c_2 (by decide))).symm
  | (have z := ((tX hLv nwb nkb (by omega)).1 (by assumption)).1
     first | exact (xim_0 (nr0.trans z)).symm | exact (xaim_0 (by decide) (nr0.trans z)).symm)
  | (have z := ((tX hLv nwb nkb (by omega)).2 (by assumption)).1
     first | exact (xaim_go (by decide) (by rw [nr0]; exact z)).symm | exact (nr_eq nwb nkb (by assumption) (by assumption) (by assumption) (by assumption) (by assumption)).trans (xim_go (by rw [nr0]; exact z)).symm)
theorem lf_X7_image_35 {nv0 : Int32} {nv1 : Int32} {nv2 : Int32} {nv3 : Int32} {nv5 : Int32} {nhh : Nat} {nww : Nat} {nkk : Nat} {ng1 : Nat → Int32} {ng2 : Nat → Int32} {ng3 : Nat → Int32} {ng4 : Nat → Int32} {ng5 : Nat → Int32} {fi : Nat → Option Nat} {i0 : Nat} {i0h : Nat} {i0w : Nat} {i0k : Nat} {i1 : Nat} {i1v0 : Int32} {i1v1 : Int32} {i1v2 : Int32} {i1v3 : Int32} {i1v5 : Int32} {i1h : Nat} {i1w : Nat} {i1k : Nat} {i1g1 : Nat → Int32} {i1g2 : Nat → Int32} {i1g3 : Nat → Int32} {i1g4 : Nat → Int32} {i1g5 : Nat → Int32} (nhb : nhh ≤ 999) (nwb : nww ≤ 6) (nkb : nkk ≤ 6) (hLv : okLv (nrm nv0 nv1 nv2 nv3 nhh nv5 nww nkk ng1 ng2 ng3 ng4 ng5)) (hi0 : fi 0 = some i0) (hi1 : fi 1 = some i1) (hg0 : i0h ≤ 999) (hg1 : i0w ≤ 6) (hg2 : i0k ≤ 6) (hg3 : i1h ≤ 999) (hg4 : i1w ≤ 6) (hg5 : i1k ≤ 6) (c_1 : ¬ ((1 : Int32) < 0)) (c_2 : (1 : Int32) < 2) (f_7_0_0 : ¬ 0 < nv0) : (nrm i1v0 i1v1 i1v2 i1v3 i1h i1v5 i1w i1k i1g1 i1g2 i1g3 i1g4 i1g5) = n_image (nrm nv0 nv1 nv2 nv3 nhh nv5 nww nkk ng1 ng2 ng3 ng4 ng5) (nrm i1v0 i1v1 i1v2 i1v3 i1h i1v5 i1w i1k i1g1 i1g2 i1g3 i1g4 i1g5) (1 : Int32) 1 := by
  first
  | assumption
  | exact (xim_k (by decide)).symm
  | exact (xaim_b (Or.inl c_1)).symm
  | exact (xaim_b (Or.inr c_2)).symm
  | exact (xim_k (fun q => by subst q; exact absurd c_1 (by decide))).symm
  | exact (xim_k (fun q => by subst q; exact absurd c_2 (by decide))).symm
  | (have z := ((tX hLv nwb nkb (by omega)).1 (by assumption)).1
     first | exact (xim_0 (nr0.trans z)).symm | exact (xaim_0 (by decide) (nr0.trans z)).symm)
  | (have z := ((tX hLv nwb nkb (by omega)).2 (by assumption)).1
     first | exact (xaim_go (by decide) (by rw [nr0]; exact z)).symm | exact (nr_eq nwb nkb (by assumption) (by assumption) (by assumption) (by assumption) (by assumption)).trans (xim_go (by rw [nr0]; exact z)).symm)
theorem lf_X7_image_36 {nv0 : Int32} {nv1 : Int32} {nv2 : Int32} {nv3 : Int32} {nv5 : Int32} {nhh : Nat} {nww : Nat} {nkk : Nat} {ng1 : Nat → Int32} {ng2 : Nat → Int32} {ng3 : Nat → Int32} {ng4 : Nat → Int32} {ng5 : Nat → Int32} {fi : Nat → Option Nat} {i0 : Nat} {i0h : Nat} {i0w : Nat} {i0k : Nat} {i1 : Nat} {i1h : Nat} {i1w : Nat} {i1k : Nat} (nhb : nhh ≤ 999) (nwb : nww ≤ 6) (nkb : nkk ≤ 6) (hLv : okLv (nrm nv0 nv1 nv2 nv3 nhh nv5 nww nkk ng1 ng2 ng3 ng4 ng5)) (hi0 : fi 0 = some i0) (hi1 : fi 1 = some i1) (hg0 : i0h ≤ 999) (hg1 : i0w ≤ 6) (hg2 : i0k ≤ 6) (hg3 : i1h ≤ 999) (hg4 : i1w ≤ 6) (hg5 : i1k ≤ 6) (c_1 : ¬ ((1 : Int32) < 0)) (c_2 : (1 : Int32) < 2) (f_7_0_0 : ¬ 0 < nv0) : (-1000002) = (a_image (nrm nv0 nv1 nv2 nv3 nhh nv5 nww nkk ng1 ng2 ng3 ng4 ng5) (1 : Int32)) := by
  first
  | assumption
  | exact (xim_k (by decide)).symm
  | exact (xaim_b (Or.inl c_1)).symm
  | exact (xaim_b (Or.inr c_2)).symm
  | exact (xim_k (fun q => by subst q; exact absurd c_1 (by decide))).symm
  | exact (xim_k (fun q => by subst q; exact absurd c_2 (by decide))).symm
  | (have z := ((tX hLv nwb nkb (by omega)).1 (by assumption)).1
     first | exact (xim_0 (nr0.trans z)).symm | exact (xaim_0 (by decide) (nr0.trans z)).symm)
  | (have z := ((tX hLv nwb nkb (by omega)).2 (by assumption)).1
     first | exact (xaim_go (by decide) (by rw [nr0]; exact z)).symm | exact (nr_eq nwb nkb (by assumption) (by assumption) (by assumption) (by assumption) (by assumption)).trans (xim_go (by rw [nr0]; exact z)).symm)
theorem lf_X7_image_37 {nv0 : Int32} {nv1 : Int32} {nv2 : Int32} {nv3 : Int32} {nv5 : Int32} {nhh : Nat} {nww : Nat} {nkk : Nat} {ng1 : Nat → Int32} {ng2 : Nat → Int32} {ng3 : Nat → Int32} {ng4 : Nat → Int32} {ng5 : Nat → Int32} {fi : Nat → Option Nat} {i0 : Nat} {i0h : Nat} {i0w : Nat} {i0k : Nat} {i1 : Nat} {i1h : Nat} {i1w : Nat} {i1k : Nat} {f1n_10 : Nat → Int32} {f2n_10 : Nat → Int32} {f3n_10 : Nat → Int32} {f4n_10 : Nat → Int32} {f5n_10 : Nat → Int32} (nhb : nhh ≤ 999) (nwb : nww ≤ 6) (nkb : nkk ≤ 6) (hLv : okLv (nrm nv0 nv1 nv2 nv3 nhh nv5 nww nkk ng1 ng2 ng3 ng4 ng5)) (hi0 : fi 0 = some i0) (hi1 : fi 1 = some i1) (hg0 : i0h ≤ 999) (hg1 : i0w ≤ 6) (hg2 : i0k ≤ 6) (hg3 : i1h ≤ 999) (hg4 : i1w ≤ 6) (hg5 : i1k ≤ 6) (c_1 : ¬ ((1 : Int32) < 0)) (c_2 : (1 : Int32) < 2) (f_7_1_0 : 0 < nv0) (hF_10_0 : (∀ jq : Nat, jq < 6 → f1n_10 jq = ng1 jq)) (hF_10_1 : (∀ jq : Nat, jq < 6 → f2n_10 jq = ng2 jq)) (hF_10_2 : (∀ jq : Nat, jq < 6 → f3n_10 jq = ng3 jq)) (hF_10_3 : (∀ jq : Nat, jq < 6 → f4n_10 jq = ng4 jq)) (hF_10_4 : (∀ jq : Nat, jq < 6 → f5n_10 jq = ng5 jq)) : i0h ≤ 999 := by
  first
  | assumption
  | exact (xim_k (by decide)).symm
  | exact (xaim_b (Or.inl c_1)).symm
  | exact (xaim_b (Or.inr c_2)).symm
  | exact (xim_k (fun q => by subst q; exact absurd c_1 (by decide))).symm
  | exact (xim_k (fun q => by subst q; exact absurd c_2 (by decide))).symm
  | (have z := ((tX hLv nwb nkb (by omega)).1 (by assumption)).1
     first | exact (xim_0 (nr0.trans z)).symm | exact (xaim_0 (by decide) (nr0.trans z)).symm)
  | (have z := ((tX hLv nwb nkb (by omega)).2 (by assumption)).1
     first | exact (xaim_go (by decide) (by rw [nr0]; exact z)).symm | exact (nr_eq nwb nkb (by assumption) (by assumption) (by assumption) (by assumption) (by assumption)).trans (xim_go (by rw [nr0]; exact z)).symm)
theorem lf_X7_image_38 {nv0 : Int32} {nv1 : Int32} {nv2 : Int32} {nv3 : Int32} {nv5 : Int32} {nhh : Nat} {nww : Nat} {nkk : Nat} {ng1 : Nat → Int32} {ng2 : Nat → Int32} {ng3 : Nat → Int32} {ng4 : Nat → Int32} {ng5 : Nat → Int32} {fi : Nat → Option Nat} {i0 : Nat} {i0h : Nat} {i0w : Nat} {i0k : Nat} {i1 : Nat} {i1h : Nat} {i1w : Nat} {i1k : Nat} {f1n_10 : Nat → Int32} {f2n_10 : Nat → Int32} {f3n_10 : Nat → Int32} {f4n_10 : Nat → Int32} {f5n_10 : Nat → Int32} (nhb : nhh ≤ 999) (nwb : nww ≤ 6) (nkb : nkk ≤ 6) (hLv : okLv (nrm nv0 nv1 nv2 nv3 nhh nv5 nww nkk ng1 ng2 ng3 ng4 ng5)) (hi0 : fi 0 = some i0) (hi1 : fi 1 = some i1) (hg0 : i0h ≤ 999) (hg1 : i0w ≤ 6) (hg2 : i0k ≤ 6) (hg3 : i1h ≤ 999) (hg4 : i1w ≤ 6) (hg5 : i1k ≤ 6) (c_1 : ¬ ((1 : Int32) < 0)) (c_2 : (1 : Int32) < 2) (f_7_1_0 : 0 < nv0) (hF_10_0 : (∀ jq : Nat, jq < 6 → f1n_10 jq = ng1 jq)) (hF_10_1 : (∀ jq : Nat, jq < 6 → f2n_10 jq = ng2 jq)) (hF_10_2 : (∀ jq : Nat, jq < 6 → f3n_10 jq = ng3 jq)) (hF_10_3 : (∀ jq : Nat, jq < 6 → f4n_10 jq = ng4 jq)) (hF_10_4 : (∀ jq : Nat, jq < 6 → f5n_10 jq = ng5 jq)) : i0w ≤ 6 := by
  first
  | assumption
  | exact (xim_k (by decide)).symm
  | exact (xaim_b (Or.inl c_1)).symm
  | exact (xaim_b (Or.inr c_2)).symm
  | exact (xim_k (fun q => by subst q; exact absurd c_1 (by decide))).symm
  | exact (xim_k (fun q => by subst q; exact absurd c_2 (by decide))).symm
  | (have z := ((tX hLv nwb nkb (by omega)).1 (by assumption)).1
     first | exact (xim_0 (nr0.trans z)).symm | exact (xaim_0 (by decide) (nr0.trans z)).symm)
  | (have z := ((tX hLv nwb nkb (by omega)).2 (by assumption)).1
     first | exact (xaim_go (by decide) (by rw [nr0]; exact z)).symm | exact (nr_eq nwb nkb (by assumption) (by assumption) (by assumption) (by assumption) (by assumption)).trans (xim_go (by rw [nr0]; exact z)).symm)
theorem lf_X7_image_39 {nv0 : Int32} {nv1 : Int32} {nv2 : Int32} {nv3 : Int32} {nv5 : Int32} {nhh : Nat} {nww : Nat} {nkk : Nat} {ng1 : Nat → Int32} {ng2 : Nat → Int32} {ng3 : Nat → Int32} {ng4 : Nat → Int32} {ng5 : Nat → Int32} {fi : Nat → Option Nat} {i0 : Nat} {i0h : Nat} {i0w : Nat} {i0k : Nat} {i1 : Nat} {i1h : Nat} {i1w : Nat} {i1k : Nat} {f1n_10 : Nat → Int32} {f2n_10 : Nat → Int32} {f3n_10 : Nat → Int32} {f4n_10 : Nat → Int32} {f5n_10 : Nat → Int32} (nhb : nhh ≤ 999) (nwb : nww ≤ 6) (nkb : nkk ≤ 6) (hLv : okLv (nrm nv0 nv1 nv2 nv3 nhh nv5 nww nkk ng1 ng2 ng3 ng4 ng5)) (hi0 : fi 0 = some i0) (hi1 : fi 1 = some i1) (hg0 : i0h ≤ 999) (hg1 : i0w ≤ 6) (hg2 : i0k ≤ 6) (hg3 : i1h ≤ 999) (hg4 : i1w ≤ 6) (hg5 : i1k ≤ 6) (c_1 : ¬ ((1 : Int32) < 0)) (c_2 : (1 : Int32) < 2) (f_7_1_0 : 0 < nv0) (hF_10_0 : (∀ jq : Nat, jq < 6 → f1n_10 jq = ng1 jq)) (hF_10_1 : (∀ jq : Nat, jq < 6 → f2n_10 jq = ng2 jq)) (hF_10_2 : (∀ jq : Nat, jq < 6 → f3n_10 jq = ng3 jq)) (hF_10_3 : (∀ jq : Nat, jq < 6 → f4n_10 jq = ng4 jq)) (hF_10_4 : (∀ jq : Nat, jq < 6 → f5n_10 jq = ng5 jq)) : i0k ≤ 6 := by
  first
  | assumption
  | exact (xim_k (by decide)).symm
  | exact (xaim_b (Or.inl c_1)).symm
  | exact (xaim_b (Or.inr c_2)).symm
  | exact (xim_k (fun q => by subst q; exact absurd c_1 (by decide))).symm
  | exact (xim_k (fun q => by subst q; exact absurd c_2 (by decide))).symm
  | (have z := ((tX hLv nwb nkb (by omega)).1 (by assumption)).1
     first | exact (xim_0 (nr0.trans z)).symm | exact (xaim_0 (by decide) (nr0.trans z)).symm)
  | (have z := ((tX hLv nwb nkb (by omega)).2 (by assumption)).1
     first | exact (xaim_go (by decide) (by rw [nr0]; exact z)).symm | exact (nr_eq nwb nkb (by assumption) (by assumption) (by assumption) (by assumption) (by assumption)).trans (xim_go (by rw [nr0]; exact z)).symm)
theorem lf_X7_image_40 {nv0 : Int32} {nv1 : Int32} {nv2 : Int32} {nv3 : Int32} {nv5 : Int32} {nhh : Nat} {nww : Nat} {nkk : Nat} {ng1 : Nat → Int32} {ng2 : Nat → Int32} {ng3 : Nat → Int32} {ng4 : Nat → Int32} {ng5 : Nat → Int32} {fi : Nat → Option Nat} {i0 : Nat} {i0h : Nat} {i0w : Nat} {i0k : Nat} {i1 : Nat} {i1h : Nat} {i1w : Nat} {i1k : Nat} {f1n_10 : Nat → Int32} {f2n_10 : Nat → Int32} {f3n_10 : Nat → Int32} {f4n_10 : Nat → Int32} {f5n_10 : Nat → Int32} (nhb : nhh ≤ 999) (nwb : nww ≤ 6) (nkb : nkk ≤ 6) (hLv : okLv (nrm nv0 nv1 nv2 nv3 nhh nv5 nww nkk ng1 ng2 ng3 ng4 ng5)) (hi0 : fi 0 = some i0) (hi1 : fi 1 = some i1) (hg0 : i0h ≤ 999) (hg1 : i0w ≤ 6) (hg2 : i0k ≤ 6) (hg3 : i1h ≤ 999) (hg4 : i1w ≤ 6) (hg5 : i1k ≤ 6) (c_1 : ¬ ((1 : Int32) < 0)) (c_2 : (1 : Int32) < 2) (f_7_1_0 : 0 < nv0) (hF_10_0 : (∀ jq : Nat, jq < 6 → f1n_10 jq = ng1 jq)) (hF_10_1 : (∀ jq : Nat, jq < 6 → f2n_10 jq = ng2 jq)) (hF_10_2 : (∀ jq : Nat, jq < 6 → f3n_10 jq = ng3 jq)) (hF_10_3 : (∀ jq : Nat, jq < 6 → f4n_10 jq = ng4 jq)) (hF_10_4 : (∀ jq : Nat, jq < 6 → f5n_10 jq = ng5 jq)) : nhh ≤ 999 := by
  first
  | assumption
  | exact (xim_k (by decide)).symm
  | exact (xaim_b (Or.inl c_1)).symm
  | exact (xaim_b (Or.inr c_2)).symm
  | exact (xim_k (fun q => by subst q; exact absurd c_1 (by decide))).symm
  | exact (xim_k (fun q => by subst q; exact absurd c_2 (by decide))).symm
  | (have z := ((tX hLv nwb nkb (by omega)).1 (by assumption)).1
     first | exact (xim_0 (nr0.trans z)).symm | exact (xaim_0 (by decide) (nr0.trans z)).symm)
  | (have z := ((tX hLv nwb nkb (by omega)).2 (by assumption)).1
     first | exact (xaim_go (by decide) (by rw [nr0]; exact z)).symm | exact (nr_eq nwb nkb (by assumption) (by assumption) (by assumption) (by assumption) (by assumption)).trans (xim_go (by rw [nr0]; exact z)).symm)
theorem lf_X7_image_41 {nv0 : Int32} {nv1 : Int32} {nv2 : Int32} {nv3 : Int32} {nv5 : Int32} {nhh : Nat} {nww : Nat} {nkk : Nat} {ng1 : Nat → Int32} {ng2 : Nat → Int32} {ng3 : Nat → Int32} {ng4 : Nat → Int32} {ng5 : Nat → Int32} {fi : Nat → Option Nat} {i0 : Nat} {i0h : Nat} {i0w : Nat} {i0k : Nat} {i1 : Nat} {i1h : Nat} {i1w : Nat} {i1k : Nat} {f1n_10 : Nat → Int32} {f2n_10 : Nat → Int32} {f3n_10 : Nat → Int32} {f4n_10 : Nat → Int32} {f5n_10 : Nat → Int32} (nhb : nhh ≤ 999) (nwb : nww ≤ 6) (nkb : nkk ≤ 6) (hLv : okLv (nrm nv0 nv1 nv2 nv3 nhh nv5 nww nkk ng1 ng2 ng3 ng4 ng5)) (hi0 : fi 0 = some i0) (hi1 : fi 1 = some i1) (hg0 : i0h ≤ 999) (hg1 : i0w ≤ 6) (hg2 : i0k ≤ 6) (hg3 : i1h ≤ 999) (hg4 : i1w ≤ 6) (hg5 : i1k ≤ 6) (c_1 : ¬ ((1 : Int32) < 0)) (c_2 : (1 : Int32) < 2) (f_7_1_0 : 0 < nv0) (hF_10_0 : (∀ jq : Nat, jq < 6 → f1n_10 jq = ng1 jq)) (hF_10_1 : (∀ jq : Nat, jq < 6 → f2n_10 jq = ng2 jq)) (hF_10_2 : (∀ jq : Nat, jq < 6 → f3n_10 jq = ng3 jq)) (hF_10_3 : (∀ jq : Nat, jq < 6 → f4n_10 jq = ng4 jq)) (hF_10_4 : (∀ jq : Nat, jq < 6 → f5n_10 jq = ng5 jq)) : nww ≤ 6 := by
  first
  | assumption
  | exact (xim_k (by decide)).symm
  | exact (xaim_b (Or.inl c_1)).symm
  | exact (xaim_b (Or.inr c_2)).symm
  | exact (xim_k (fun q => by subst q; exact absurd c_1 (by decide))).symm
  | exact (xim_k (fun q => by subst q; exact absurd c_2 (by decide))).symm
  | (have z := ((tX hLv nwb nkb (by omega)).1 (by assumption)).1
     first | exact (xim_0 (nr0.trans z)).symm | exact (xaim_0 (by decide) (nr0.trans z)).symm)
  | (have z := ((tX hLv nwb nkb (by omega)).2 (by assumption)).1
     first | exact (xaim_go (by decide) (by rw [nr0]; exact z)).symm | exact (nr_eq nwb nkb (by assumption) (by assumption) (by assumption) (by assumption) (by assumption)).trans (xim_go (by rw [nr0]; exact z)).symm)
theorem lf_X7_image_42 {nv0 : Int32} {nv1 : Int32} {nv2 : Int32} {nv3 : Int32} {nv5 : Int32} {nhh : Nat} {nww : Nat} {nkk : Nat} {ng1 : Nat → Int32} {ng2 : Nat → Int32} {ng3 : Nat → Int32} {ng4 : Nat → Int32} {ng5 : Nat → Int32} {fi : Nat → Option Nat} {i0 : Nat} {i0h : Nat} {i0w : Nat} {i0k : Nat} {i1 : Nat} {i1h : Nat} {i1w : Nat} {i1k : Nat} {f1n_10 : Nat → Int32} {f2n_10 : Nat → Int32} {f3n_10 : Nat → Int32} {f4n_10 : Nat → Int32} {f5n_10 : Nat → Int32} (nhb : nhh ≤ 999) (nwb : nww ≤ 6) (nkb : nkk ≤ 6) (hLv : okLv (nrm nv0 nv1 nv2 nv3 nhh nv5 nww nkk ng1 ng2 ng3 ng4 ng5)) (hi0 : fi 0 = some i0) (hi1 : fi 1 = some i1) (hg0 : i0h ≤ 999) (hg1 : i0w ≤ 6) (hg2 : i0k ≤ 6) (hg3 : i1h ≤ 999) (hg4 : i1w ≤ 6) (hg5 : i1k ≤ 6) (c_1 : ¬ ((1 : Int32) < 0)) (c_2 : (1 : Int32) < 2) (f_7_1_0 : 0 < nv0) (hF_10_0 : (∀ jq : Nat, jq < 6 → f1n_10 jq = ng1 jq)) (hF_10_1 : (∀ jq : Nat, jq < 6 → f2n_10 jq = ng2 jq)) (hF_10_2 : (∀ jq : Nat, jq < 6 → f3n_10 jq = ng3 jq)) (hF_10_3 : (∀ jq : Nat, jq < 6 → f4n_10 jq = ng4 jq)) (hF_10_4 : (∀ jq : Nat, jq < 6 → f5n_10 jq = ng5 jq)) : nkk ≤ 6 := by
  first
  | assumption
  | exact (xim_k (by decide)).symm
  | exact (xaim_b (Or.inl c_1)).symm
  | exact (xaim_b (Or.inr c_2)).symm
  | exact (xim_k (fun q => by subst q; exact absurd c_1 (by decide))).symm
  | exact (xim_k (fun q => by subst q; exact absurd c_2 (by decide))).symm
  | (have z := ((tX hLv nwb nkb (by omega)).1 (by assumption)).1
     first | exact (xim_0 (nr0.trans z)).symm | exact (xaim_0 (by decide) (nr0.trans z)).symm)
  | (have z := ((tX hLv nwb nkb (by omega)).2 (by assumption)).1
     first | exact (xaim_go (by decide) (by rw [nr0]; exact z)).symm | exact (nr_eq nwb nkb (by assumption) (by assumption) (by assumption) (by assumption) (by assumption)).trans (xim_go (by rw [nr0]; exact z)).symm)
theorem lf_X7_image_43 {nv0 : Int32} {nv1 : Int32} {nv2 : Int32} {nv3 : Int32} {nv5 : Int32} {nhh : Nat} {nww : Nat} {nkk : Nat} {ng1 : Nat → Int32} {ng2 : Nat → Int32} {ng3 : Nat → Int32} {ng4 : Nat → Int32} {ng5 : Nat → Int32} {fi : Nat → Option Nat} {i0 : Nat} {i0v0 : Int32} {i0v1 : Int32} {i0v2 : Int32} {i0v3 : Int32} {i0v5 : Int32} {i0h : Nat} {i0w : Nat} {i0k : Nat} {i0g1 : Nat → Int32} {i0g2 : Nat → Int32} {i0g3 : Nat → Int32} {i0g4 : Nat → Int32} {i0g5 : Nat → Int32} {i1 : Nat} {i1h : Nat} {i1w : Nat} {i1k : Nat} {f1n_10 : Nat → Int32} {f2n_10 : Nat → Int32} {f3n_10 : Nat → Int32} {f4n_10 : Nat → Int32} {f5n_10 : Nat → Int32} (nhb : nhh ≤ 999) (nwb : nww ≤ 6) (nkb : nkk ≤ 6) (hLv : okLv (nrm nv0 nv1 nv2 nv3 nhh nv5 nww nkk ng1 ng2 ng3 ng4 ng5)) (hi0 : fi 0 = some i0) (hi1 : fi 1 = some i1) (hg0 : i0h ≤ 999) (hg1 : i0w ≤ 6) (hg2 : i0k ≤ 6) (hg3 : i1h ≤ 999) (hg4 : i1w ≤ 6) (hg5 : i1k ≤ 6) (c_1 : ¬ ((1 : Int32) < 0)) (c_2 : (1 : Int32) < 2) (f_7_1_0 : 0 < nv0) (hF_10_0 : (∀ jq : Nat, jq < 6 → f1n_10 jq = ng1 jq)) (hF_10_1 : (∀ jq : Nat, jq < 6 → f2n_10 jq = ng2 jq)) (hF_10_2 : (∀ jq : Nat, jq < 6 → f3n_10 jq = ng3 jq)) (hF_10_3 : (∀ jq : Nat, jq < 6 → f4n_10 jq = ng4 jq)) (hF_10_4 : (∀ jq : Nat, jq < 6 → f5n_10 jq = ng5 jq)) : (nrm i0v0 i0v1 i0v2 i0v3 i0h i0v5 i0w i0k i0g1 i0g2 i0g3 i0g4 i0g5) = n_image (nrm nv0 nv1 nv2 nv3 nhh nv5 nww nkk ng1 ng2 ng3 ng4 ng5) (nrm i0v0 i0v1 i0v2 i0v3 i0h i0v5 i0w i0k i0g1 i0g2 i0g3 i0g4 i0g5) (1 : Int32) 0 := by
  first
  | assumption
  | exact (xim_k (by decide)).symm
  | exact (xaim_b (Or.inl c_1)).symm
  | exact (xaim_b (Or.inr c_2)).symm
  | exact (xim_k (fun q => by subst q; exact absurd c_1 (by decide))).symm
  | exact (xim_k (fun q => by subst q; exact absurd c_2 (by decide))).symm
  | (have z := ((tX hLv nwb nkb (by omega)).1 (by assumption)).1
     first | exact (xim_0 (nr0.trans z)).symm | exact (xaim_0 (by decide) (nr0.trans z)).symm)
  | (have z := ((tX hLv nwb nkb (by omega)).2 (by assumption)).1
     first | exact (xaim_go (by decide) (by rw [nr0]; exact z)).symm | exact (nr_eq nwb nkb (by assumption) (by assumption) (by assumption) (by assumption) (by assumption)).trans (xim_go (by rw [nr0]; exact z)).symm)
theorem lf_X7_image_44 {nv0 : Int32} {nv1 : Int32} {nv2 : Int32} {nv3 : Int32} {nv5 : Int32} {nhh : Nat} {nww : Nat} {nkk : Nat} {ng1 : Nat → Int32} {ng2 : Nat → Int32} {ng3 : Nat → Int32} {ng4 : Nat → Int32} {ng5 : Nat → Int32} {fi : Nat → Option Nat} {i0 : Nat} {i0h : Nat} {i0w : Nat} {i0k : Nat} {i1 : Nat} {i1v0 : Int32} {i1v1 : Int32} {i1v2 : Int32} {i1v3 : Int32} {i1v5 : Int32} {i1h : Nat} {i1w : Nat} {i1k : Nat} {i1g1 : Nat → Int32} {i1g2 : Nat → Int32} {i1g3 : Nat → Int32} {i1g4 : Nat → Int32} {i1g5 : Nat → Int32} {f1n_10 : Nat → Int32} {f2n_10 : Nat → Int32} {f3n_10 : Nat → Int32} {f4n_10 : Nat → Int32} {f5n_10 : Nat → Int32} (nhb : nhh ≤ 999) (nwb : nww ≤ 6) (nkb : nkk ≤ 6) (hLv : okLv (nrm nv0 nv1 nv2 nv3 nhh nv5 nww nkk ng1 ng2 ng3 ng4 ng5)) (hi0 : fi 0 = some i0) (hi1 : fi 1 = some i1) (hg0 : i0h ≤ 999) (hg1 : i0w ≤ 6) (hg2 : i0k ≤ 6) (hg3 : i1h ≤ 999) (hg4 : i1w ≤ 6) (hg5 : i1k ≤ 6) (c_1 : ¬ ((1 : Int32) < 0)) (c_2 : (1 : Int32) < 2) (f_7_1_0 : 0 < nv0) (hF_10_0 : (∀ jq : Nat, jq < 6 → f1n_10 jq = ng1 jq)) (hF_10_1 : (∀ jq : Nat, jq < 6 → f2n_10 jq = ng2 jq)) (hF_10_2 : (∀ jq : Nat, jq < 6 → f3n_10 jq = ng3 jq)) (hF_10_3 : (∀ jq : Nat, jq < 6 → f4n_10 jq = ng4 jq)) (hF_10_4 : (∀ jq : Nat, jq < 6 → f5n_10 jq = ng5 jq)) : (nrm nv0 nv1 nv2 nv3 nhh nv5 nww nkk f1n_10 f2n_10 f3n_10 f4n_10 f5n_10) = n_image (nrm nv0 nv1 nv2 nv3 nhh nv5 nww nkk ng1 ng2 ng3 ng4 ng5) (nrm i1v0 i1v1 i1v2 i1v3 i1h i1v5 i1w i1k i1g1 i1g2 i1g3 i1g4 i1g5) (1 : Int32) 1 := by
  first
  | assumption
  | exact (xim_k (by decide)).symm
  | exact (xaim_b (Or.inl c_1)).symm
  | exact (xaim_b (Or.inr c_2)).symm
  | exact (xim_k (fun q => by subst q; exact absurd c_1 (by decide))).symm
  | exact (xim_k (fun q => by subst q; exact absurd c_2 (by decide))).symm
  | (have z := ((tX hLv nwb nkb (by omega)).1 (by assumption)).1
     first | exact (xim_0 (nr0.trans z)).symm | exact (xaim_0 (by decide) (nr0.trans z)).symm)
  | (have z := ((tX hLv nwb nkb (by omega)).2 (by assumption)).1
     first | exact (xaim_go (by decide) (by rw [nr0]; exact z)).symm | exact (nr_eq nwb nkb (by assumption) (by assumption) (by assumption) (by assumption) (by assumption)).trans (xim_go (by rw [nr0]; exact z)).symm)
theorem lf_X7_image_45 {nv0 : Int32} {nv1 : Int32} {nv2 : Int32} {nv3 : Int32} {nv5 : Int32} {nhh : Nat} {nww : Nat} {nkk : Nat} {ng1 : Nat → Int32} {ng2 : Nat → Int32} {ng3 : Nat → Int32} {ng4 : Nat → Int32} {ng5 : Nat → Int32} {fi : Nat → Option Nat} {i0 : Nat} {i0h : Nat} {i0w : Nat} {i0k : Nat} {i1 : Nat} {i1h : Nat} {i1w : Nat} {i1k : Nat} {f1n_10 : Nat → Int32} {f2n_10 : Nat → Int32} {f3n_10 : Nat → Int32} {f4n_10 : Nat → Int32} {f5n_10 : Nat → Int32} (nhb : nhh ≤ 999) (nwb : nww ≤ 6) (nkb : nkk ≤ 6) (hLv : okLv (nrm nv0 nv1 nv2 nv3 nhh nv5 nww nkk ng1 ng2 ng3 ng4 ng5)) (hi0 : fi 0 = some i0) (hi1 : fi 1 = some i1) (hg0 : i0h ≤ 999) (hg1 : i0w ≤ 6) (hg2 : i0k ≤ 6) (hg3 : i1h ≤ 999) (hg4 : i1w ≤ 6) (hg5 : i1k ≤ 6) (c_1 : ¬ ((1 : Int32) < 0)) (c_2 : (1 : Int32) < 2) (f_7_1_0 : 0 < nv0) (hF_10_0 : (∀ jq : Nat, jq < 6 → f1n_10 jq = ng1 jq)) (hF_10_1 : (∀ jq : Nat, jq < 6 → f2n_10 jq = ng2 jq)) (hF_10_2 : (∀ jq : Nat, jq < 6 → f3n_10 jq = ng3 jq)) (hF_10_3 : (∀ jq : Nat, jq < 6 → f4n_10 jq = ng4 jq)) (hF_10_4 : (∀ jq : Nat, jq < 6 → f5n_10 jq = ng5 jq)) : 1 = (a_image (nrm nv0 nv1 nv2 nv3 nhh nv5 nww nkk ng1 ng2 ng3 ng4 ng5) (1 : Int32)) := by
  first
  | assumption
  | exact (xim_k (by decide)).symm
  | exact (xaim_b (Or.inl c_1)).symm
  | exact (xaim_b (Or.inr c_2)).symm
  | exact (xim_k (fun q => by subst q; exact absurd c_1 (by decide))).symm
  | exact (xim_k (fun q => by subst q; exact absurd c_2 (by decide))).symm
  | (have z := ((tX hLv nwb nkb (by omega)).1 (by assumption)).1
     first | exact (xim_0 (nr0.trans z)).symm | exact (xaim_0 (by decide) (nr0.trans z)).symm)
  | (have z := ((tX hLv nwb nkb (by omega)).2 (by assumption)).1
     first | exact (xaim_go (by decide) (by rw [nr0]; exact z)).symm | exact (nr_eq nwb nkb (by assumption) (by assumption) (by assumption) (by assumption) (by assumption)).trans (xim_go (by rw [nr0]; exact z)).symm)
theorem lf_X7_image_46 {nv0 : Int32} {nv1 : Int32} {nv2 : Int32} {nv3 : Int32} {nv5 : Int32} {nhh : Nat} {nww : Nat} {nkk : Nat} {ng1 : Nat → Int32} {ng2 : Nat → Int32} {ng3 : Nat → Int32} {ng4 : Nat → Int32} {ng5 : Nat → Int32} {fi : Nat → Option Nat} {i0 : Nat} {i0h : Nat} {i0w : Nat} {i0k : Nat} {i1 : Nat} {i1h : Nat} {i1w : Nat} {i1k : Nat} {k0 : Int32} (nhb : nhh ≤ 999) (nwb : nww ≤ 6) (nkb : nkk ≤ 6) (hLv : okLv (nrm nv0 nv1 nv2 nv3 nhh nv5 nww nkk ng1 ng2 ng3 ng4 ng5)) (hi0 : fi 0 = some i0) (hi1 : fi 1 = some i1) (hg0 : i0h ≤ 999) (hg1 : i0w ≤ 6) (hg2 : i0k ≤ 6) (hg3 : i1h ≤ 999) (hg4 : i1w ≤ 6) (hg5 : i1k ≤ 6) (c_1 : ¬ (k0 < 0)) (c_2 : ¬ (k0 < 2)) : i0h ≤ 999 := by
  first
  | assumption
  | exact (xim_k (by decide)).symm
  | exact (xaim_b (Or.inl c_1)).symm
  | exact (xaim_b (Or.inr c_2)).symm
  | exact (xim_k (fun q => by subst q; exact absurd c_1 (by decide))).symm
  | exact (xim_k (fun q => by subst q; exact absurd c_2 (by decide))).symm
  | (have z := ((tX hLv nwb nkb (by omega)).1 (by assumption)).1
     first | exact (xim_0 (nr0.trans z)).symm | exact (xaim_0 (by decide) (nr0.trans z)).symm)
  | (have z := ((tX hLv nwb nkb (by omega)).2 (by assumption)).1
     first | exact (xaim_go (by decide) (by rw [nr0]; exact z)).symm | exact (nr_eq nwb nkb (by assumption) (by assumption) (by assumption) (by assumption) (by assumption)).trans (xim_go (by rw [nr0]; exact z)).symm)
theorem lf_X7_image_47 {nv0 : Int32} {nv1 : Int32} {nv2 : Int32} {nv3 : Int32} {nv5 : Int32} {nhh : Nat} {nww : Nat} {nkk : Nat} {ng1 : Nat → Int32} {ng2 : Nat → Int32} {ng3 : Nat → Int32} {ng4 : Nat → Int32} {ng5 : Nat → Int32} {fi : Nat → Option Nat} {i0 : Nat} {i0h : Nat} {i0w : Nat} {i0k : Nat} {i1 : Nat} {i1h : Nat} {i1w : Nat} {i1k : Nat} {k0 : Int32} (nhb : nhh ≤ 999) (nwb : nww ≤ 6) (nkb : nkk ≤ 6) (hLv : okLv (nrm nv0 nv1 nv2 nv3 nhh nv5 nww nkk ng1 ng2 ng3 ng4 ng5)) (hi0 : fi 0 = some i0) (hi1 : fi 1 = some i1) (hg0 : i0h ≤ 999) (hg1 : i0w ≤ 6) (hg2 : i0k ≤ 6) (hg3 : i1h ≤ 999) (hg4 : i1w ≤ 6) (hg5 : i1k ≤ 6) (c_1 : ¬ (k0 < 0)) (c_2 : ¬ (k0 < 2)) : i0w ≤ 6 := by
  first
  | assumption
  | exact (xim_k (by decide)).symm
  | exact (xaim_b (Or.inl c_1)).symm
  | exact (xaim_b (Or.inr c_2)).symm
  | exact (xim_k (fun q => by subst q; exact absurd c_1 (by decide))).symm
  | exact (xim_k (fun q => by subst q; exact absurd c_2 (by decide))).symm
  | (have z := ((tX hLv nwb nkb (by omega)).1 (by assumption)).1
     first | exact (xim_0 (nr0.trans z)).symm | exact (xaim_0 (by decide) (nr0.trans z)).symm)
  | (have z := ((tX hLv nwb nkb (by omega)).2 (by assumption)).1
     first | exact (xaim_go (by decide) (by rw [nr0]; exact z)).symm | exact (nr_eq nwb nkb (by assumption) (by assumption) (by assumption) (by assumption) (by assumption)).trans (xim_go (by rw [nr0]; exact z)).symm)
theorem lf_X7_image_48 {nv0 : Int32} {nv1 : Int32} {nv2 : Int32} {nv3 : Int32} {nv5 : Int32} {nhh : Nat} {nww : Nat} {nkk : Nat} {ng1 : Nat → Int32} {ng2 : Nat → Int32} {ng3 : Nat → Int32} {ng4 : Nat → Int32} {ng5 : Nat → Int32} {fi : Nat → Option Nat} {i0 : Nat} {i0h : Nat} {i0w : Nat} {i0k : Nat} {i1 : Nat} {i1h : Nat} {i1w : Nat} {i1k : Nat} {k0 : Int32} (nhb : nhh ≤ 999) (nwb : nww ≤ 6) (nkb : nkk ≤ 6) (hLv : okLv (nrm nv0 nv1 nv2 nv3 nhh nv5 nww nkk ng1 ng2 ng3 ng4 ng5)) (hi0 : fi 0 = some i0) (hi1 : fi 1 = some i1) (hg0 : i0h ≤ 999) (hg1 : i0w ≤ 6) (hg2 : i0k ≤ 6) (hg3 : i1h ≤ 999) (hg4 : i1w ≤ 6) (hg5 : i1k ≤ 6) (c_1 : ¬ (k0 < 0)) (c_2 : ¬ (k0 < 2)) : i0k ≤ 6 := by
  first
  | assumption
  | exact (xim_k (by decide)).symm
  | exact (xaim_b (Or.inl c_1)).symm
  | exact (xaim_b (Or.inr c_2)).symm
  | exact (xim_k (fun q => by subst q; exact absurd c_1 (by decide))).symm
  | exact (xim_k (fun q => by subst q; exact absurd c_2 (by decide))).symm
  | (have z := ((tX hLv nwb nkb (by omega)).1 (by assumption)).1
     first | exact (xim_0 (nr0.trans z)).symm | exact (xaim_0 (by decide) (nr0.trans z)).symm)
  | (have z := ((tX hLv nwb nkb (by omega)).2 (by assumption)).1
     first | exact (xaim_go (by decide) (by rw [nr0]; exact z)).symm | exact (nr_eq nwb nkb (by assumption) (by assumption) (by assumption) (by assumption) (by assumption)).trans (xim_go (by rw [nr0]; exact z)).symm)
theorem lf_X7_image_49 {nv0 : Int32} {nv1 : Int32} {nv2 : Int32} {nv3 : Int32} {nv5 : Int32} {nhh : Nat} {nww : Nat} {nkk : Nat} {ng1 : Nat → Int32} {ng2 : Nat → Int32} {ng3 : Nat → Int32} {ng4 : Nat → Int32} {ng5 : Nat → Int32} {fi : Nat → Option Nat} {i0 : Nat} {i0h : Nat} {i0w : Nat} {i0k : Nat} {i1 : Nat} {i1h : Nat} {i1w : Nat} {i1k : Nat} {k0 : Int32} (nhb : nhh ≤ 999) (nwb : nww ≤ 6) (nkb : nkk ≤ 6) (hLv : okLv (nrm nv0 nv1 nv2 nv3 nhh nv5 nww nkk ng1 ng2 ng3 ng4 ng5)) (hi0 : fi 0 = some i0) (hi1 : fi 1 = some i1) (hg0 : i0h ≤ 999) (hg1 : i0w ≤ 6) (hg2 : i0k ≤ 6) (hg3 : i1h ≤ 999) (hg4 : i1w ≤ 6) (hg5 : i1k ≤ 6) (c_1 : ¬ (k0 < 0)) (c_2 : ¬ (k0 < 2)) : i1h ≤ 999 := by
  first
  | assumption
  | exact (xim_k (by decide)).symm
  | exact (xaim_b (Or.inl c_1)).symm
  | exact (xaim_b (Or.inr c_2)).symm
  | exact (xim_k (fun q => by subst q; exact absurd c_1 (by decide))).symm
  | exact (xim_k (fun q => by subst q; exact absurd c_2 (by decide))).symm
  | (have z := ((tX hLv nwb nkb (by omega)).1 (by assumption)).1
     first | exact (xim_0 (nr0.trans z)).symm | exact (xaim_0 (by decide) (nr0.trans z)).symm)
  | (have z := ((tX hLv nwb nkb (by omega)).2 (by assumption)).1
     first | exact (xaim_go (by decide) (by rw [nr0]; exact z)).symm | exact (nr_eq nwb nkb (by assumption) (by assumption) (by assumption) (by assumption) (by assumption)).trans (xim_go (by rw [nr0]; exact z)).symm)
theorem lf_X7_image_50 {nv0 : Int32} {nv1 : Int32} {nv2 : Int32} {nv3 : Int32} {nv5 : Int32} {nhh : Nat} {nww : Nat} {nkk : Nat} {ng1 : Nat → Int32} {ng2 : Nat → Int32} {ng3 : Nat → Int32} {ng4 : Nat → Int32} {ng5 : Nat → Int32} {fi : Nat → Option Nat} {i0 : Nat} {i0h : Nat} {i0w : Nat} {i0k : Nat} {i1 : Nat} {i1h : Nat} {i1w : Nat} {i1k : Nat} {k0 : Int32} (nhb : nhh ≤ 999) (nwb : nww ≤ 6) (nkb : nkk ≤ 6) (hLv : okLv (nrm nv0 nv1 nv2 nv3 nhh nv5 nww nkk ng1 ng2 ng3 ng4 ng5)) (hi0 : fi 0 = some i0) (hi1 : fi 1 = some i1) (hg0 : i0h ≤ 999) (hg1 : i0w ≤ 6) (hg2 : i0k ≤ 6) (hg3 : i1h ≤ 999) (hg4 : i1w ≤ 6) (hg5 : i1k ≤ 6) (c_1 : ¬ (k0 < 0)) (c_2 : ¬ (k0 < 2)) : i1w ≤ 6 := by
  first
  | assumption
  | exact (xim_k (by decide)).symm
  | exact (xaim_b (Or.inl c_1)).symm
  | exact (xaim_b (Or.inr c_2)).symm
  | exact (xim_k (fun q => by subst q; exact absurd c_1 (by decide))).symm
  | exact (xim_k (fun q => by subst q; exact absurd c_2 (by decide))).symm
  | (have z := ((tX hLv nwb nkb (by omega)).1 (by assumption)).1
     first | exact (xim_0 (nr0.trans z)).symm | exact (xaim_0 (by decide) (nr0.trans z)).symm)
  | (have z := ((tX hLv nwb nkb (by omega)).2 (by assumption)).1
     first | exact (xaim_go (by decide) (by rw [nr0]; exact z)).symm | exact (nr_eq nwb nkb (by assumption) (by assumption) (by assumption) (by assumption) (by assumption)).trans (xim_go (by rw [nr0]; exact z)).symm)
theorem lf_X7_image_51 {nv0 : Int32} {nv1 : Int32} {nv2 : Int32} {nv3 : Int32} {nv5 : Int32} {nhh : Nat} {nww : Nat} {nkk : Nat} {ng1 : Nat → Int32} {ng2 : Nat → Int32} {ng3 : Nat → Int32} {ng4 : Nat → Int32} {ng5 : Nat → Int32} {fi : Nat → Option Nat} {i0 : Nat} {i0h : Nat} {i0w : Nat} {i0k : Nat} {i1 : Nat} {i1h : Nat} {i1w : Nat} {i1k : Nat} {k0 : Int32} (nhb : nhh ≤ 999) (nwb : nww ≤ 6) (nkb : nkk ≤ 6) (hLv : okLv (nrm nv0 nv1 nv2 nv3 nhh nv5 nww nkk ng1 ng2 ng3 ng4 ng5)) (hi0 : fi 0 = some i0) (hi1 : fi 1 = some i1) (hg0 : i0h ≤ 999) (hg1 : i0w ≤ 6) (hg2 : i0k ≤ 6) (hg3 : i1h ≤ 999) (hg4 : i1w ≤ 6) (hg5 : i1k ≤ 6) (c_1 : ¬ (k0 < 0)) (c_2 : ¬ (k0 < 2)) : i1k ≤ 6 := by
  first
  | assumption
  | exact (xim_k (by decide)).symm
  | exact (xaim_b (Or.inl c_1)).symm
  | exact (xaim_b (Or.inr c_2)).symm
  | exact (xim_k (fun q => by subst q; exact absurd c_1 (by decide))).symm
  | exact (xim_k (fun q => by subst q; exact absurd c_2 (by decide))).symm
  | (have z := ((tX hLv nwb nkb (by omega)).1 (by assumption)).1
     first | exact (xim_0 (nr0.trans z)).symm | exact (xaim_0 (by decide) (nr0.trans z)).symm)
  | (have z := ((tX hLv nwb nkb (by omega)).2 (by assumption)).1
     first | exact (xaim_go (by decide) (by rw [nr0]; exact z)).symm | exact (nr_eq nwb nkb (by assumption) (by assumption) (by assumption) (by assumption) (by assumption)).trans (xim_go (by rw [nr0]; exact z)).symm)
theorem lf_X7_image_52 {nv0 : Int32} {nv1 : Int32} {nv2 : Int32} {nv3 : Int32} {nv5 : Int32} {nhh : Nat} {nww : Nat} {nkk : Nat} {ng1 : Nat → Int32} {ng2 : Nat → Int32} {ng3 : Nat → Int32} {ng4 : Nat → Int32} {ng5 : Nat → Int32} {fi : Nat → Option Nat} {i0 : Nat} {i0v0 : Int32} {i0v1 : Int32} {i0v2 : Int32} {i0v3 : Int32} {i0v5 : Int32} {i0h : Nat} {i0w : Nat} {i0k : Nat} {i0g1 : Nat → Int32} {i0g2 : Nat → Int32} {i0g3 : Nat → Int32} {i0g4 : Nat → Int32} {i0g5 : Nat → Int32} {i1 : Nat} {i1h : Nat} {i1w : Nat} {i1k : Nat} {k0 : Int32} (nhb : nhh ≤ 999) (nwb : nww ≤ 6) (nkb : nkk ≤ 6) (hLv : okLv (nrm nv0 nv1 nv2 nv3 nhh nv5 nww nkk ng1 ng2 ng3 ng4 ng5)) (hi0 : fi 0 = some i0) (hi1 : fi 1 = some i1) (hg0 : i0h ≤ 999) (hg1 : i0w ≤ 6) (hg2 : i0k ≤ 6) (hg3 : i1h ≤ 999) (hg4 : i1w ≤ 6) (hg5 : i1k ≤ 6) (c_1 : ¬ (k0 < 0)) (c_2 : ¬ (k0 < 2)) : (nrm i0v0 i0v1 i0v2 i0v3 i0h i0v5 i0w i0k i0g1 i0g2 i0g3 i0g4 i0g5) = n_image (nrm nv0 nv1 nv2 nv3 nhh nv5 nww nkk ng1 ng2 ng3 ng4 ng5) (nrm i0v0 i0v1 i0v2 i0v3 i0h i0v5 i0w i0k i0g1 i0g2 i0g3 i0g4 i0g5) k0 0 := by
  first
  | assumption
  | exact (xim_k (by decide)).symm
  | exact (xaim_b (Or.inl c_1)).symm
  | exact (xaim_b (Or.inr c_2)).symm
  | exact (xim_k (fun q => by subst q; exact absurd c_1 (by decide))).symm
  | exact (xim_k (fun q => by subst q; exact absurd c_2 (by decide))).symm
  | (have z := ((tX hLv nwb nkb (by omega)).1 (by assumption)).1
     first | exact (xim_0 (nr0.trans z)).symm | exact (xaim_0 (by decide) (nr0.trans z)).symm)
  | (have z := ((tX hLv nwb nkb (by omega)).2 (by assumption)).1
     first | exact (xaim_go (by decide) (by rw [nr0]; exact z)).symm | exact (nr_eq nwb nkb (by assumption) (by assumption) (by assumption) (by assumption) (by assumption)).trans (xim_go (by rw [nr0]; exact z)).symm)
theorem lf_X7_image_53 {nv0 : Int32} {nv1 : Int32} {nv2 : Int32} {nv3 : Int32} {nv5 : Int32} {nhh : Nat} {nww : Nat} {nkk : Nat} {ng1 : Nat → Int32} {ng2 : Nat → Int32} {ng3 : Nat → Int32} {ng4 : Nat → Int32} {ng5 : Nat → Int32} {fi : Nat → Option Nat} {i0 : Nat} {i0h : Nat} {i0w : Nat} {i0k : Nat} {i1 : Nat} {i1v0 : Int32} {i1v1 : Int32} {i1v2 : Int32} {i1v3 : Int32} {i1v5 : Int32} {i1h : Nat} {i1w : Nat} {i1k : Nat} {i1g1 : Nat → Int32} {i1g2 : Nat → Int32} {i1g3 : Nat → Int32} {i1g4 : Nat → Int32} {i1g5 : Nat → Int32} {k0 : Int32} (nhb : nhh ≤ 999) (nwb : nww ≤ 6) (nkb : nkk ≤ 6) (hLv : okLv (nrm nv0 nv1 nv2 nv3 nhh nv5 nww nkk ng1 ng2 ng3 ng4 ng5)) (hi0 : fi 0 = some i0) (hi1 : fi 1 = some i1) (hg0 : i0h ≤ 999) (hg1 : i0w ≤ 6) (hg2 : i0k ≤ 6) (hg3 : i1h ≤ 999) (hg4 : i1w ≤ 6) (hg5 : i1k ≤ 6) (c_1 : ¬ (k0 < 0)) (c_2 : ¬ (k0 < 2)) : (nrm i1v0 i1v1 i1v2 i1v3 i1h i1v5 i1w i1k i1g1 i1g2 i1g3 i1g4 i1g5) = n_image (nrm nv0 nv1 nv2 nv3 nhh nv5 nww nkk ng1 ng2 ng3 ng4 ng5) (nrm i1v0 i1v1 i1v2 i1v3 i1h i1v5 i1w i1k i1g1 i1g2 i1g3 i1g4 i1g5) k0 1 := by
  first
  | assumption
  | exact (xim_k (by decide)).symm
  | exact (xaim_b (Or.inl c_1)).symm
  | exact (xaim_b (Or.inr c_2)).symm
  | exact (xim_k (fun q => by subst q; exact absurd c_1 (by decide))).symm
  | exact (xim_k (fun q => by subst q; exact absurd c_2 (by decide))).symm
  | (have z := ((tX hLv nwb nkb (by omega)).1 (by assumption)).1
     first | exact (xim_0 (nr0.trans z)).symm | exact (xaim_0 (by decide) (nr0.trans z)).symm)
  | (have z := ((tX hLv nwb nkb (by omega)).2 (by assumption)).1
     first | exact (xaim_go (by decide) (by rw [nr0]; exact z)).symm | exact (nr_eq nwb nkb (by assumption) (by assumption) (by assumption) (by assumption) (by assumption)).trans (xim_go (by rw [nr0]; exact z)).symm)
theorem lf_X7_image_54 {nv0 : Int32} {nv1 : Int32} {nv2 : Int32} {nv3 : Int32} {nv5 : Int32} {nhh : Nat} {nww : Nat} {nkk : Nat} {ng1 : Nat → Int32} {ng2 : Nat → Int32} {ng3 : Nat → Int32} {ng4 : Nat → Int32} {ng5 : Nat → Int32} {fi : Nat → Option Nat} {i0 : Nat} {i0h : Nat} {i0w : Nat} {i0k : Nat} {i1 : Nat} {i1h : Nat} {i1w : Nat} {i1k : Nat} {k0 : Int32} (nhb : nhh ≤ 999) (nwb : nww ≤ 6) (nkb : nkk ≤ 6) (hLv : okLv (nrm nv0 nv1 nv2 nv3 nhh nv5 nww nkk ng1 ng2 ng3 ng4 ng5)) (hi0 : fi 0 = some i0) (hi1 : fi 1 = some i1) (hg0 : i0h ≤ 999) (hg1 : i0w ≤ 6) (hg2 : i0k ≤ 6) (hg3 : i1h ≤ 999) (hg4 : i1w ≤ 6) (hg5 : i1k ≤ 6) (c_1 : ¬ (k0 < 0)) (c_2 : ¬ (k0 < 2)) : (-1000001) = (a_image (nrm nv0 nv1 nv2 nv3 nhh nv5 nww nkk ng1 ng2 ng3 ng4 ng5) k0) := by
  first
  | assumption
  | exact (xim_k (by decide)).symm
  | exact (xaim_b (Or.inl c_1)).symm
  | exact (xaim_b (Or.inr c_2)).symm
  | exact (xim_k (fun q => by subst q; exact absurd c_1 (by decide))).symm
  | exact (xim_k (fun q => by subst q; exact absurd c_2 (by decide))).symm
  | (have z := ((tX hLv nwb nkb (by omega)).1 (by assumption)).1
     first | exact (xim_0 (nr0.trans z)).symm | exact (xaim_0 (by decide) (nr0.trans z)).symm)
  | (have z := ((tX hLv nwb nkb (by omega)).2 (by assumption)).1
     first | exact (xaim_go (by decide) (by rw [nr0]; exact z)).symm | exact (nr_eq nwb nkb (by assumption) (by assumption) (by assumption) (by assumption) (by assumption)).trans (xim_go (by rw [nr0]; exact z)).symm)
set_option maxHeartbeats 4000000 in
set_option maxRecDepth 100000 in
theorem r_X7_image (l : Launch) (dC : Nat → ClassId) (dI : Nat → Nat → Nat) (cI cZ cL cJ : ClassId) (sz : Nat) (x : Nat) (ro : Nat) (ta : Nat) (no : Nat) (ac : Nat) (im : Nat) (tr : Nat) (pl : Nat) (cs : Nat) (ak : Nat) (xf : Int32) (xg : Int32) (nv0 : Int32) (nv1 : Int32) (nv2 : Int32) (nv3 : Int32) (nv5 : Int32) (nhh : Nat) (nww : Nat) (nkk : Nat) (nb1 : Nat) (nb2 : Nat) (nb3 : Nat) (nb4 : Nat) (nb5 : Nat) (ng1 : Nat → Int32) (ng2 : Nat → Int32) (ng3 : Nat → Int32) (ng4 : Nat → Int32) (ng5 : Nat → Int32) (fi : Nat → Option Nat) (i0 : Nat) (i0v0 : Int32) (i0v1 : Int32) (i0v2 : Int32) (i0v3 : Int32) (i0v5 : Int32) (i0h : Nat) (i0w : Nat) (i0k : Nat) (i0b1 : Nat) (i0b2 : Nat) (i0b3 : Nat) (i0b4 : Nat) (i0b5 : Nat) (i0g1 : Nat → Int32) (i0g2 : Nat → Int32) (i0g3 : Nat → Int32) (i0g4 : Nat → Int32) (i0g5 : Nat → Int32) (i1 : Nat) (i1v0 : Int32) (i1v1 : Int32) (i1v2 : Int32) (i1v3 : Int32) (i1v5 : Int32) (i1h : Nat) (i1w : Nat) (i1k : Nat) (i1b1 : Nat) (i1b2 : Nat) (i1b3 : Nat) (i1b4 : Nat) (i1b5 : Nat) (i1g1 : Nat → Int32) (i1g2 : Nat → Int32) (i1g3 : Nat → Int32) (i1g4 : Nat → Int32) (i1g5 : Nat → Int32) (k0 : Int32) (nhb : nhh ≤ 999) (nwb : nww ≤ 6) (nkb : nkk ≤ 6) (hLv : okLv (nrm nv0 nv1 nv2 nv3 nhh nv5 nww nkk ng1 ng2 ng3 ng4 ng5)) (hi0 : fi 0 = some i0) (hi1 : fi 1 = some i1) (hg0 : i0h ≤ 999) (hg1 : i0w ≤ 6) (hg2 : i0k ≤ 6) (hg3 : i1h ≤ 999) (hg4 : i1w ≤ 6) (hg5 : i1k ≤ 6) : Met l yX7_image wsX7_image ({ frames := 2, cells := 0, slots := 0, locals := 101 }) (va_Pc [.ref x, .int k0] (fun U => U.heap.size = sz ∧ va_P (dC, dI) vwCl [(xo_7_rrrrrrrrrii x ro ta no ac im tr pl cs ak xf xg), (xo_3_iiiiiiiirrrrr no nv0 nv1 nv2 nv3 (nI nhh) nv5 (nI nww) (nI nkk) nb1 nb2 nb3 nb4 nb5), (xI nb1 cI 6 ng1), (xI nb2 cI 6 ng2), (xI nb3 cI 6 ng3), (xI nb4 cI 6 ng4), (xI nb5 cI 6 ng5), (xJ im cL 2 fi), (xo_3_iiiiiiiirrrrr i0 i0v0 i0v1 i0v2 i0v3 (nI i0h) i0v5 (nI i0w) (nI i0k) i0b1 i0b2 i0b3 i0b4 i0b5), (xI i0b1 cI 6 i0g1), (xI i0b2 cI 6 i0g2), (xI i0b3 cI 6 i0g3), (xI i0b4 cI 6 i0g4), (xI i0b5 cI 6 i0g5), (xo_3_iiiiiiiirrrrr i1 i1v0 i1v1 i1v2 i1v3 (nI i1h) i1v5 (nI i1w) (nI i1k) i1b1 i1b2 i1b3 i1b4 i1b5), (xI i1b1 cI 6 i1g1), (xI i1b2 cI 6 i1g2), (xI i1b3 cI 6 i1g3), (xI i1b4 cI 6 i1g4), (xI i1b5 cI 6 i1g5)] U.heap ∧ va_K (dC, dI) vwCl [(cI, .int), (cZ, .boolean), (cL, .object RX3), (cJ, .array .int)] U ∧ va_D (fun _ => True) [(xo_7_rrrrrrrrrii x ro ta no ac im tr pl cs ak xf xg), (xo_3_iiiiiiiirrrrr no nv0 nv1 nv2 nv3 (nI nhh) nv5 (nI nww) (nI nkk) nb1 nb2 nb3 nb4 nb5), (xI nb1 cI 6 ng1), (xI nb2 cI 6 ng2), (xI nb3 cI 6 ng3), (xI nb4 cI 6 ng4), (xI nb5 cI 6 ng5), (xJ im cL 2 fi), (xo_3_iiiiiiiirrrrr i0 i0v0 i0v1 i0v2 i0v3 (nI i0h) i0v5 (nI i0w) (nI i0k) i0b1 i0b2 i0b3 i0b4 i0b5), (xI i0b1 cI 6 i0g1), (xI i0b2 cI 6 i0g2), (xI i0b3 cI 6 i0g3), (xI i0b4 cI 6 i0g4), (xI i0b5 cI 6 i0g5), (xo_3_iiiiiiiirrrrr i1 i1v0 i1v1 i1v2 i1v3 (nI i1h) i1v5 (nI i1w) (nI i1k) i1b1 i1b2 i1b3 i1b4 i1b5), (xI i1b1 cI 6 i1g1), (xI i1b2 cI 6 i1g2), (xI i1b3 cI 6 i1g3), (xI i1b4 cI 6 i1g4), (xI i1b5 cI 6 i1g5)])) (va_Qi (fun r (_ : Unit) => r = (a_image (nrm nv0 nv1 nv2 nv3 nhh nv5 nww nkk ng1 ng2 ng3 ng4 ng5) k0)) (fun (_ : Unit) t => ∃ (i0v0n : Int32) (i0v1n : Int32) (i0v2n : Int32) (i0v3n : Int32) (i0v5n : Int32) (i0hn : Nat) (i0wn : Nat) (i0kn : Nat) (i0g1n : Nat → Int32) (i0g2n : Nat → Int32) (i0g3n : Nat → Int32) (i0g4n : Nat → Int32) (i0g5n : Nat → Int32) (i1v0n : Int32) (i1v1n : Int32) (i1v2n : Int32) (i1v3n : Int32) (i1v5n : Int32) (i1hn : Nat) (i1wn : Nat) (i1kn : Nat) (i1g1n : Nat → Int32) (i1g2n : Nat → Int32) (i1g3n : Nat → Int32) (i1g4n : Nat → Int32) (i1g5n : Nat → Int32), va_P (dC, dI) vwCl [(xo_7_rrrrrrrrrii x ro ta no ac im tr pl cs ak xf xg), (xo_3_iiiiiiiirrrrr no nv0 nv1 nv2 nv3 (nI nhh) nv5 (nI nww) (nI nkk) nb1 nb2 nb3 nb4 nb5), (xI nb1 cI 6 ng1), (xI nb2 cI 6 ng2), (xI nb3 cI 6 ng3), (xI nb4 cI 6 ng4), (xI nb5 cI 6 ng5), (xJ im cL 2 fi), (xo_3_iiiiiiiirrrrr i0 i0v0n i0v1n i0v2n i0v3n (nI i0hn) i0v5n (nI i0wn) (nI i0kn) i0b1 i0b2 i0b3 i0b4 i0b5), (xI i0b1 cI 6 i0g1n), (xI i0b2 cI 6 i0g2n), (xI i0b3 cI 6 i0g3n), (xI i0b4 cI 6 i0g4n), (xI i0b5 cI 6 i0g5n), (xo_3_iiiiiiiirrrrr i1 i1v0n i1v1n i1v2n i1v3n (nI i1hn) i1v5n (nI i1wn) (nI i1kn) i1b1 i1b2 i1b3 i1b4 i1b5), (xI i1b1 cI 6 i1g1n), (xI i1b2 cI 6 i1g2n), (xI i1b3 cI 6 i1g3n), (xI i1b4 cI 6 i1g4n), (xI i1b5 cI 6 i1g5n)] t.heap ∧ va_D (va_A [(xo_7_rrrrrrrrrii x ro ta no ac im tr pl cs ak xf xg), (xo_3_iiiiiiiirrrrr no nv0 nv1 nv2 nv3 (nI nhh) nv5 (nI nww) (nI nkk) nb1 nb2 nb3 nb4 nb5), (xI nb1 cI 6 ng1), (xI nb2 cI 6 ng2), (xI nb3 cI 6 ng3), (xI nb4 cI 6 ng4), (xI nb5 cI 6 ng5), (xJ im cL 2 fi), (xo_3_iiiiiiiirrrrr i0 i0v0 i0v1 i0v2 i0v3 (nI i0h) i0v5 (nI i0w) (nI i0k) i0b1 i0b2 i0b3 i0b4 i0b5), (xI i0b1 cI 6 i0g1), (xI i0b2 cI 6 i0g2), (xI i0b3 cI 6 i0g3), (xI i0b4 cI 6 i0g4), (xI i0b5 cI 6 i0g5), (xo_3_iiiiiiiirrrrr i1 i1v0 i1v1 i1v2 i1v3 (nI i1h) i1v5 (nI i1w) (nI i1k) i1b1 i1b2 i1b3 i1b4 i1b5), (xI i1b1 cI 6 i1g1), (xI i1b2 cI 6 i1g2), (xI i1b3 cI 6 i1g3), (xI i1b4 cI 6 i1g4), (xI i1b5 cI 6 i1g5)] sz) [(xo_7_rrrrrrrrrii x ro ta no ac im tr pl cs ak xf xg), (xo_3_iiiiiiiirrrrr no nv0 nv1 nv2 nv3 (nI nhh) nv5 (nI nww) (nI nkk) nb1 nb2 nb3 nb4 nb5), (xI nb1 cI 6 ng1), (xI nb2 cI 6 ng2), (xI nb3 cI 6 ng3), (xI nb4 cI 6 ng4), (xI nb5 cI 6 ng5), (xJ im cL 2 fi), (xo_3_iiiiiiiirrrrr i0 i0v0n i0v1n i0v2n i0v3n (nI i0hn) i0v5n (nI i0wn) (nI i0kn) i0b1 i0b2 i0b3 i0b4 i0b5), (xI i0b1 cI 6 i0g1n), (xI i0b2 cI 6 i0g2n), (xI i0b3 cI 6 i0g3n), (xI i0b4 cI 6 i0g4n), (xI i0b5 cI 6 i0g5n), (xo_3_iiiiiiiirrrrr i1 i1v0n i1v1n i1v2n i1v3n (nI i1hn) i1v5n (nI i1wn) (nI i1kn) i1b1 i1b2 i1b3 i1b4 i1b5), (xI i1b1 cI 6 i1g1n), (xI i1b2 cI 6 i1g2n), (xI i1b3 cI 6 i1g3n), (xI i1b4 cI 6 i1g4n), (xI i1b5 cI 6 i1g5n)] ∧ i0hn ≤ 999 ∧ i0wn ≤ 6 ∧ i0kn ≤ 6 ∧ i1hn ≤ 999 ∧ i1wn ≤ 6 ∧ i1kn ≤ 6 ∧ (nrm i0v0n i0v1n i0v2n i0v3n i0hn i0v5n i0wn i0kn i0g1n i0g2n i0g3n i0g4n i0g5n) = n_image (nrm nv0 nv1 nv2 nv3 nhh nv5 nww nkk ng1 ng2 ng3 ng4 ng5) (nrm i0v0 i0v1 i0v2 i0v3 i0h i0v5 i0w i0k i0g1 i0g2 i0g3 i0g4 i0g5) k0 0 ∧ (nrm i1v0n i1v1n i1v2n i1v3n i1hn i1v5n i1wn i1kn i1g1n i1g2n i1g3n i1g4n i1g5n) = n_image (nrm nv0 nv1 nv2 nv3 nhh nv5 nww nkk ng1 ng2 ng3 ng4 ng5) (nrm i1v0 i1v1 i1v2 i1v3 i1h i1v5 i1w i1k i1g1 i1g2 i1g3 i1g4 i1g5) k0 1) (va_A [(xo_7_rrrrrrrrrii x ro ta no ac im tr pl cs ak xf xg), (xo_3_iiiiiiiirrrrr no nv0 nv1 nv2 nv3 (nI nhh) nv5 (nI nww) (nI nkk) nb1 nb2 nb3 nb4 nb5), (xI nb1 cI 6 ng1), (xI nb2 cI 6 ng2), (xI nb3 cI 6 ng3), (xI nb4 cI 6 ng4), (xI nb5 cI 6 ng5), (xJ im cL 2 fi), (xo_3_iiiiiiiirrrrr i0 i0v0 i0v1 i0v2 i0v3 (nI i0h) i0v5 (nI i0w) (nI i0k) i0b1 i0b2 i0b3 i0b4 i0b5), (xI i0b1 cI 6 i0g1), (xI i0b2 cI 6 i0g2), (xI i0b3 cI 6 i0g3), (xI i0b4 cI 6 i0g4), (xI i0b5 cI 6 i0g5), (xo_3_iiiiiiiirrrrr i1 i1v0 i1v1 i1v2 i1v3 (nI i1h) i1v5 (nI i1w) (nI i1k) i1b1 i1b2 i1b3 i1b4 i1b5), (xI i1b1 cI 6 i1g1), (xI i1b2 cI 6 i1g2), (xI i1b3 cI 6 i1g3), (xI i1b4 cI 6 i1g4), (xI i1b5 cI 6 i1g5)] sz)) 0 0 (va_A [(xo_7_rrrrrrrrrii x ro ta no ac im tr pl cs ak xf xg), (xo_3_iiiiiiiirrrrr no nv0 nv1 nv2 nv3 (nI nhh) nv5 (nI nww) (nI nkk) nb1 nb2 nb3 nb4 nb5), (xI nb1 cI 6 ng1), (xI nb2 cI 6 ng2), (xI nb3 cI 6 ng3), (xI nb4 cI 6 ng4), (xI nb5 cI 6 ng5), (xJ im cL 2 fi), (xo_3_iiiiiiiirrrrr i0 i0v0 i0v1 i0v2 i0v3 (nI i0h) i0v5 (nI i0w) (nI i0k) i0b1 i0b2 i0b3 i0b4 i0b5), (xI i0b1 cI 6 i0g1), (xI i0b2 cI 6 i0g2), (xI i0b3 cI 6 i0g3), (xI i0b4 cI 6 i0g4), (xI i0b5 cI 6 i0g5), (xo_3_iiiiiiiirrrrr i1 i1v0 i1v1 i1v2 i1v3 (nI i1h) i1v5 (nI i1w) (nI i1k) i1b1 i1b2 i1b3 i1b4 i1b5), (xI i1b1 cI 6 i1g1), (xI i1b2 cI 6 i1g2), (xI i1b3 cI 6 i1g3), (xI i1b4 cI 6 i1g4), (xI i1b5 cI 6 i1g5)] sz) := by
  refine Met.ofW (cc := cX7_image) (maxL := 2) (ret := (some .int)) (by decide) rfl ?_
  intro p e s m args below meth c s₁ B hml hv
  obtain ⟨rfl, hsz, hP, hK, hD0⟩ := hv
  have hx := B.exec
  have hb := B.bytes
  have hr := B.returns
  have hts := atoms_spec (ws := wsX7_image) B.pre
  have hown : s.vm.findClass RX7 = some m.cls := findClass_of_methodNamed B.named
  have hlocks := B.notSynchronized
  subst hsz
  have hD := hD0.self (sz := s.heap.size)
  generalize hAe : va_A [(xo_7_rrrrrrrrrii x ro ta no ac im tr pl cs ak xf xg), (xo_3_iiiiiiiirrrrr no nv0 nv1 nv2 nv3 (nI nhh) nv5 (nI nww) (nI nkk) nb1 nb2 nb3 nb4 nb5), (xI nb1 cI 6 ng1), (xI nb2 cI 6 ng2), (xI nb3 cI 6 ng3), (xI nb4 cI 6 ng4), (xI nb5 cI 6 ng5), (xJ im cL 2 fi), (xo_3_iiiiiiiirrrrr i0 i0v0 i0v1 i0v2 i0v3 (nI i0h) i0v5 (nI i0w) (nI i0k) i0b1 i0b2 i0b3 i0b4 i0b5), (xI i0b1 cI 6 i0g1), (xI i0b2 cI 6 i0g2), (xI i0b3 cI 6 i0g3), (xI i0b4 cI 6 i0g4), (xI i0b5 cI 6 i0g5), (xo_3_iiiiiiiirrrrr i1 i1v0 i1v1 i1v2 i1v3 (nI i1h) i1v5 (nI i1w) (nI i1k) i1b1 i1b2 i1b3 i1b4 i1b5), (xI i1b1 cI 6 i1g1), (xI i1b2 cI 6 i1g2), (xI i1b3 cI 6 i1g3), (xI i1b4 cI 6 i1g4), (xI i1b5 cI 6 i1g5)] s.heap.size = A at hD ⊢
  have hA : ∀ q : Nat, s.heap.size ≤ q → A q := fun q h => by rw [← hAe]; exact Or.inr h
  have hS : va_S A s.heap s.heap [] := va_S.rf
  have hP : va_P (dC, dI) vwCl [(xo_7_rrrrrrrrrii x ro ta no ac im tr pl cs ak xf xg), (xo_3_iiiiiiiirrrrr no nv0 nv1 nv2 nv3 (nI nhh) nv5 (nI nww) (nI nkk) nb1 nb2 nb3 nb4 nb5), (xI nb1 cI 6 ng1), (xI nb2 cI 6 ng2), (xI nb3 cI 6 ng3), (xI nb4 cI 6 ng4), (xI nb5 cI 6 ng5), (xJ im cL 2 fi), (xo_3_iiiiiiiirrrrr i0 i0v0 i0v1 i0v2 i0v3 (nI i0h) i0v5 (nI i0w) (nI i0k) i0b1 i0b2 i0b3 i0b4 i0b5), (xI i0b1 cI 6 i0g1), (xI i0b2 cI 6 i0g2), (xI i0b3 cI 6 i0g3), (xI i0b4 cI 6 i0g4), (xI i0b5 cI 6 i0g5), (xo_3_iiiiiiiirrrrr i1 i1v0 i1v1 i1v2 i1v3 (nI i1h) i1v5 (nI i1w) (nI i1k) i1b1 i1b2 i1b3 i1b4 i1b5), (xI i1b1 cI 6 i1g1), (xI i1b2 cI 6 i1g2), (xI i1b3 cI 6 i1g3), (xI i1b4 cI 6 i1g4), (xI i1b5 cI 6 i1g5)] s.heap := hP
  have hl := lv_entry ([.ref x, .int k0]) (n := 2) (Nat.le_of_ble_eq_true rfl)
  rw [lg_entry_eq]
  generalize (lg_sl ([.ref x, .int k0]) ++ List.replicate (2 - (lg_sl ([.ref x, .int k0])).length) Slot.unset).toArray = ls at hl ⊢
  have hl : lv_has ls 2 [(0, .ref x), (1, .int k0)] := hl
  refine lv_iload_n hx hb dX7_image_0 rfl (lv_at hl 1 rfl) ?_
  refine lv_if_lt (tgt := 13) hx hb dX7_image_1 (by decide) (fun c_1 => ?_) (fun c_1 => ?_)
  · skip
    refine lv_ldc (own := RX7) (v := (-1000001)) hx hb hown (hts _ mx_X7_image_2) dX7_image_13 ?_
    have hX9 := cut2 (wc := [(xo_7_rrrrrrrrrii x ro ta no ac im tr pl cs ak xf xg), (xo_3_iiiiiiiirrrrr no nv0 nv1 nv2 nv3 (nI nhh) nv5 (nI nww) (nI nkk) nb1 nb2 nb3 nb4 nb5), (xI nb1 cI 6 ng1), (xI nb2 cI 6 ng2), (xI nb3 cI 6 ng3), (xI nb4 cI 6 ng4), (xI nb5 cI 6 ng5), (xJ im cL 2 fi), (xo_3_iiiiiiiirrrrr i0 i0v0 i0v1 i0v2 i0v3 (nI i0h) i0v5 (nI i0w) (nI i0k) i0b1 i0b2 i0b3 i0b4 i0b5), (xI i0b1 cI 6 i0g1), (xI i0b2 cI 6 i0g2), (xI i0b3 cI 6 i0g3), (xI i0b4 cI 6 i0g4), (xI i0b5 cI 6 i0g5), (xo_3_iiiiiiiirrrrr i1 i1v0 i1v1 i1v2 i1v3 (nI i1h) i1v5 (nI i1w) (nI i1k) i1b1 i1b2 i1b3 i1b4 i1b5), (xI i1b1 cI 6 i1g1), (xI i1b2 cI 6 i1g2), (xI i1b3 cI 6 i1g3), (xI i1b4 cI 6 i1g4), (xI i1b5 cI 6 i1g5)]) hP hD [0, 1, 2, 3, 4, 5, 6, 7, 8, 9, 10, 11, 12, 13, 14, 15, 16, 17, 18, 19] (by decide +kernel) rfl
    exact W.iret (v := (-1000001)) hx hb hr (fun t ht hW => ⟨⟨(-1000001), (), rfl, (lf_X7_image_9 nhb nwb nkb hLv hi0 hi1 hg0 hg1 hg2 hg3 hg4 hg5 c_1), ⟨i0v0, i0v1, i0v2, i0v3, i0v5, i0h, i0w, i0k, i0g1, i0g2, i0g3, i0g4, i0g5, i1v0, i1v1, i1v2, i1v3, i1v5, i1h, i1w, i1k, i1g1, i1g2, i1g3, i1g4, i1g5, va_Ht ht hX9.1, hX9.2, (lf_X7_image_1 nhb nwb nkb hLv hi0 hi1 hg0 hg1 hg2 hg3 hg4 hg5 c_1), (lf_X7_image_2 nhb nwb nkb hLv hi0 hi1 hg0 hg1 hg2 hg3 hg4 hg5 c_1), (lf_X7_image_3 nhb nwb nkb hLv hi0 hi1 hg0 hg1 hg2 hg3 hg4 hg5 c_1), (lf_X7_image_4 nhb nwb nkb hLv hi0 hi1 hg0 hg1 hg2 hg3 hg4 hg5 c_1), (lf_X7_image_5 nhb nwb nkb hLv hi0 hi1 hg0 hg1 hg2 hg3 hg4 hg5 c_1), (lf_X7_image_6 nhb nwb nkb hLv hi0 hi1 hg0 hg1 hg2 hg3 hg4 hg5 c_1), (lf_X7_image_7 nhb nwb nkb hLv hi0 hi1 hg0 hg1 hg2 hg3 hg4 hg5 c_1), (lf_X7_image_8 nhb nwb nkb hLv hi0 hi1 hg0 hg1 hg2 hg3 hg4 hg5 c_1)⟩⟩, hS.F ht⟩) hS.2.2 dX7_image_15
  · skip
    refine lv_iload_n hx hb dX7_image_4 rfl (lv_at hl 1 rfl) ?_
    refine lv_aload_n hx hb dX7_image_5 rfl (lv_at hl 0 rfl) ?_
    refine va_get (D := (dC, dI)) (ci := 7) (v := .ref im) (C := RX7) (T := TX7) (N := 11) hx hb hts i_X7_image_X7 hown hK hP 0 rfl rfl 4 (by decide) (hts _ mx_X7_image_1) (fun _ h9 => h9) rfl dX7_image_6 ?_
    refine va_alen (v := 2) hx hb hK hP 7 2 rfl rfl rfl dX7_image_9 ?_
    refine lv_icmp_lt (tgt := 16) hx hb dX7_image_10 (by decide) (fun c_2 => ?_) (fun c_2 => ?_)
    · skip
      rcases k_01 c_1 c_2 with rfl | rfl
      · skip
        refine lv_aload_n hx hb dX7_image_16 rfl (lv_at hl 0 rfl) ?_
        refine va_get (D := (dC, dI)) (ci := 7) (v := .ref no) (C := RX7) (T := TX7) (N := 11) hx hb hts i_X7_image_X7 hown hK hP 0 rfl rfl 2 (by decide) (hts _ mx_X7_image_3) (fun _ h9 => h9) rfl dX7_image_17 ?_
        have hPc_3 := hP.sub (ws' := [(xo_3_iiiiiiiirrrrr no nv0 nv1 nv2 nv3 (nI nhh) nv5 (nI nww) (nI nkk) nb1 nb2 nb3 nb4 nb5), (xI nb1 cI 6 ng1), (xI nb2 cI 6 ng2), (xI nb3 cI 6 ng3), (xI nb4 cI 6 ng4), (xI nb5 cI 6 ng5)]) [1, 2, 3, 4, 5, 6] rfl
        refine vp_callSi (W.runV (As := []) (rest := []) ⟨hx, hb, hml, hown, hts⟩ (r_X3_isTold l dC dI cI cZ cL cJ no nv0 nv1 nv2 nv3 nv5 nhh nww nkk nb1 nb2 nb3 nb4 nb5 ng1 ng2 ng3 ng4 ng5 (by omega) (nwb) (nkb)) (cwV 0 hts gX7_image_X3_isTold rfl rfl rfl (by decide +kernel) ⟨Nat.le_of_ble_eq_true rfl, Nat.le_of_ble_eq_true rfl⟩) (pvP 3 1 hK hP rfl rfl hPc_3) rfl rfl hl.1 rfl (lv_room (Nat.le_of_ble_eq_true rfl)) dX7_image_20 ⟨Nat.le_of_ble_eq_true rfl, Nat.le_of_ble_eq_true rfl⟩) (fun r_3 h_3 => ?_)
        rcases h_3 with ⟨h_3, f_3_0_0⟩ | ⟨h_3, f_3_1_0⟩
        · subst h_3
          refine lv_if_ne (tgt := 29) hx hb dX7_image_23 (by decide) (fun c_ => absurd (by decide) c_) (fun _ => ?_)
          refine lv_ldc (own := RX7) (v := (-1000002)) hx hb hown (hts _ mx_X7_image_4) dX7_image_26 ?_
          have hX9 := cut2 (wc := [(xo_7_rrrrrrrrrii x ro ta no ac im tr pl cs ak xf xg), (xo_3_iiiiiiiirrrrr no nv0 nv1 nv2 nv3 (nI nhh) nv5 (nI nww) (nI nkk) nb1 nb2 nb3 nb4 nb5), (xI nb1 cI 6 ng1), (xI nb2 cI 6 ng2), (xI nb3 cI 6 ng3), (xI nb4 cI 6 ng4), (xI nb5 cI 6 ng5), (xJ im cL 2 fi), (xo_3_iiiiiiiirrrrr i0 i0v0 i0v1 i0v2 i0v3 (nI i0h) i0v5 (nI i0w) (nI i0k) i0b1 i0b2 i0b3 i0b4 i0b5), (xI i0b1 cI 6 i0g1), (xI i0b2 cI 6 i0g2), (xI i0b3 cI 6 i0g3), (xI i0b4 cI 6 i0g4), (xI i0b5 cI 6 i0g5), (xo_3_iiiiiiiirrrrr i1 i1v0 i1v1 i1v2 i1v3 (nI i1h) i1v5 (nI i1w) (nI i1k) i1b1 i1b2 i1b3 i1b4 i1b5), (xI i1b1 cI 6 i1g1), (xI i1b2 cI 6 i1g2), (xI i1b3 cI 6 i1g3), (xI i1b4 cI 6 i1g4), (xI i1b5 cI 6 i1g5)]) hP hD [0, 1, 2, 3, 4, 5, 6, 7, 8, 9, 10, 11, 12, 13, 14, 15, 16, 17, 18, 19] (by decide +kernel) rfl
          exact W.iret (v := (-1000002)) hx hb hr (fun t ht hW => ⟨⟨(-1000002), (), rfl, (lf_X7_image_18 nhb nwb nkb hLv hi0 hi1 hg0 hg1 hg2 hg3 hg4 hg5 c_1 c_2 f_3_0_0), ⟨i0v0, i0v1, i0v2, i0v3, i0v5, i0h, i0w, i0k, i0g1, i0g2, i0g3, i0g4, i0g5, i1v0, i1v1, i1v2, i1v3, i1v5, i1h, i1w, i1k, i1g1, i1g2, i1g3, i1g4, i1g5, va_Ht ht hX9.1, hX9.2, (lf_X7_image_10 nhb nwb nkb hLv hi0 hi1 hg0 hg1 hg2 hg3 hg4 hg5 c_1 c_2 f_3_0_0), (lf_X7_image_11 nhb nwb nkb hLv hi0 hi1 hg0 hg1 hg2 hg3 hg4 hg5 c_1 c_2 f_3_0_0), (lf_X7_image_12 nhb nwb nkb hLv hi0 hi1 hg0 hg1 hg2 hg3 hg4 hg5 c_1 c_2 f_3_0_0), (lf_X7_image_13 nhb nwb nkb hLv hi0 hi1 hg0 hg1 hg2 hg3 hg4 hg5 c_1 c_2 f_3_0_0), (lf_X7_image_14 nhb nwb nkb hLv hi0 hi1 hg0 hg1 hg2 hg3 hg4 hg5 c_1 c_2 f_3_0_0), (lf_X7_image_15 nhb nwb nkb hLv hi0 hi1 hg0 hg1 hg2 hg3 hg4 hg5 c_1 c_2 f_3_0_0), (lf_X7_image_16 nhb nwb nkb hLv hi0 hi1 hg0 hg1 hg2 hg3 hg4 hg5 c_1 c_2 f_3_0_0), (lf_X7_image_17 nhb nwb nkb hLv hi0 hi1 hg0 hg1 hg2 hg3 hg4 hg5 c_1 c_2 f_3_0_0)⟩⟩, hS.F ht⟩) hS.2.2 dX7_image_28
        · subst h_3
          refine lv_if_ne (tgt := 29) hx hb dX7_image_23 (by decide) (fun _ => ?_) (fun c_ => absurd c_ (by decide))
          refine lv_aload_n hx hb dX7_image_29 rfl (lv_at hl 0 rfl) ?_
          refine va_get (D := (dC, dI)) (ci := 7) (v := .ref im) (C := RX7) (T := TX7) (N := 11) hx hb hts i_X7_image_X7 hown hK hP 0 rfl rfl 4 (by decide) (hts _ mx_X7_image_1) (fun _ h9 => h9) rfl dX7_image_30 ?_
          refine lv_iload_n hx hb dX7_image_33 rfl (lv_at hl 1 rfl) ?_
          refine va_aldq hx hb hK hP 7 2 rfl rfl (by unfold vp_in; decide) dX7_image_34 ?_
          refine W.eq (g2 := F0 m 35 ls (.ref i0 :: [])) (by show F0 m 35 ls (va_rf (fi (0 : Int32).toNatClampNeg) :: _) = _; rw [show (0 : Int32).toNatClampNeg = 0 from rfl, hi0]; rfl) ?_
          refine lv_aload_n hx hb dX7_image_35 rfl (lv_at hl 0 rfl) ?_
          refine va_get (D := (dC, dI)) (ci := 7) (v := .ref no) (C := RX7) (T := TX7) (N := 11) hx hb hts i_X7_image_X7 hown hK hP 0 rfl rfl 2 (by decide) (hts _ mx_X7_image_3) (fun _ h9 => h9) rfl dX7_image_36 ?_
          have hc_6 := cutW (wc := [(xo_3_iiiiiiiirrrrr i0 i0v0 i0v1 i0v2 i0v3 (nI i0h) i0v5 (nI i0w) (nI i0k) i0b1 i0b2 i0b3 i0b4 i0b5), (xI i0b1 cI 6 i0g1), (xI i0b2 cI 6 i0g2), (xI i0b3 cI 6 i0g3), (xI i0b4 cI 6 i0g4), (xI i0b5 cI 6 i0g5), (xo_3_iiiiiiiirrrrr no nv0 nv1 nv2 nv3 (nI nhh) nv5 (nI nww) (nI nkk) nb1 nb2 nb3 nb4 nb5), (xI nb1 cI 6 ng1), (xI nb2 cI 6 ng2), (xI nb3 cI 6 ng3), (xI nb4 cI 6 ng4), (xI nb5 cI 6 ng5)]) hP hD hS hA [8, 9, 10, 11, 12, 13, 1, 2, 3, 4, 5, 6] (by decide +kernel) rfl
          refine va_callv (va_runV (As := [.ref no]) (rest := []) ⟨hx, hb, hml, hown, hts⟩ (r_X3_becomeLike l dC dI cI cZ cL cJ s.heap.size i0 i0v0 i0v1 i0v2 i0v3 (nI i0h) i0v5 (nI i0w) (nI i0k) i0b1 i0b2 i0b3 i0b4 i0b5 i0g1 i0g2 i0g3 i0g4 i0g5 no nv0 nv1 nv2 nv3 (nI nhh) nv5 (nI nww) (nI nkk) nb1 nb2 nb3 nb4 nb5 ng1 ng2 ng3 ng4 ng5 ) (cwV 1 hts gX7_image_X3_becomeLike rfl rfl rfl (by decide +kernel) ⟨Nat.le_of_ble_eq_true rfl, Nat.le_of_ble_eq_true rfl⟩) (pvW 3 8 hK hP rfl rfl hc_6) rfl rfl hl.1 rfl (lv_room (Nat.le_of_ble_eq_true rfl)) dX7_image_39 ⟨Nat.le_of_ble_eq_true rfl, Nat.le_of_ble_eq_true rfl⟩) hS (fun q _ h => hc_6.2.2 q h) hc_6.2.2 (fun u_6 t_6 H1 locs ht hvm h_6 hB hz1 hk1 hS => ?_)
          refine xl_5_7 hB (fun f1n_6 f2n_6 f3n_6 f4n_6 f5n_6 hP1 hD1 hF_6_0 hF_6_1 hF_6_2 hF_6_3 hF_6_4 => ?_)
          clear hB
          rw [ht] at hP1
          obtain ⟨hP, hD⟩ := va_join (wr := [(xo_7_rrrrrrrrrii x ro ta no ac im tr pl cs ak xf xg), (xJ im cL 2 fi), (xo_3_iiiiiiiirrrrr i1 i1v0 i1v1 i1v2 i1v3 (nI i1h) i1v5 (nI i1w) (nI i1k) i1b1 i1b2 i1b3 i1b4 i1b5), (xI i1b1 cI 6 i1g1), (xI i1b2 cI 6 i1g2), (xI i1b3 cI 6 i1g3), (xI i1b4 cI 6 i1g4), (xI i1b5 cI 6 i1g5)]) (w1 := [(xo_3_iiiiiiiirrrrr i0 nv0 nv1 nv2 nv3 (nI nhh) nv5 (nI nww) (nI nkk) i0b1 i0b2 i0b3 i0b4 i0b5), (xI i0b1 cI 6 f1n_6), (xI i0b2 cI 6 f2n_6), (xI i0b3 cI 6 f3n_6), (xI i0b4 cI 6 f4n_6), (xI i0b5 cI 6 f5n_6), (xo_3_iiiiiiiirrrrr no nv0 nv1 nv2 nv3 (nI nhh) nv5 (nI nww) (nI nkk) nb1 nb2 nb3 nb4 nb5), (xI nb1 cI 6 ng1), (xI nb2 cI 6 ng2), (xI nb3 cI 6 ng3), (xI nb4 cI 6 ng4), (xI nb5 cI 6 ng5)]) hP hD [8, 9, 10, 11, 12, 13, 1, 2, 3, 4, 5, 6] [0, 7, 14, 15, 16, 17, 18, 19] rfl rfl (by decide +kernel) (by decide +kernel) hk1 hc_6.2.2 hP1 hD1
          generalize H1 = H at hP hS ⊢
          have hP : va_P (dC, dI) vwCl [(xo_7_rrrrrrrrrii x ro ta no ac im tr pl cs ak xf xg), (xJ im cL 2 fi), (xo_3_iiiiiiiirrrrr i1 i1v0 i1v1 i1v2 i1v3 (nI i1h) i1v5 (nI i1w) (nI i1k) i1b1 i1b2 i1b3 i1b4 i1b5), (xI i1b1 cI 6 i1g1), (xI i1b2 cI 6 i1g2), (xI i1b3 cI 6 i1g3), (xI i1b4 cI 6 i1g4), (xI i1b5 cI 6 i1g5), (xo_3_iiiiiiiirrrrr i0 nv0 nv1 nv2 nv3 (nI nhh) nv5 (nI nww) (nI nkk) i0b1 i0b2 i0b3 i0b4 i0b5), (xI i0b1 cI 6 f1n_6), (xI i0b2 cI 6 f2n_6), (xI i0b3 cI 6 f3n_6), (xI i0b4 cI 6 f4n_6), (xI i0b5 cI 6 f5n_6), (xo_3_iiiiiiiirrrrr no nv0 nv1 nv2 nv3 (nI nhh) nv5 (nI nww) (nI nkk) nb1 nb2 nb3 nb4 nb5), (xI nb1 cI 6 ng1), (xI nb2 cI 6 ng2), (xI nb3 cI 6 ng3), (xI nb4 cI 6 ng4), (xI nb5 cI 6 ng5)] H := hP
          have hD := dto hP hD
          refine lv_iconst (v := 1) hx hb dX7_image_42 (by decide) ?_
          have hX9 := cut2 (wc := [(xo_7_rrrrrrrrrii x ro ta no ac im tr pl cs ak xf xg), (xo_3_iiiiiiiirrrrr no nv0 nv1 nv2 nv3 (nI nhh) nv5 (nI nww) (nI nkk) nb1 nb2 nb3 nb4 nb5), (xI nb1 cI 6 ng1), (xI nb2 cI 6 ng2), (xI nb3 cI 6 ng3), (xI nb4 cI 6 ng4), (xI nb5 cI 6 ng5), (xJ im cL 2 fi), (xo_3_iiiiiiiirrrrr i0 nv0 nv1 nv2 nv3 (nI nhh) nv5 (nI nww) (nI nkk) i0b1 i0b2 i0b3 i0b4 i0b5), (xI i0b1 cI 6 f1n_6), (xI i0b2 cI 6 f2n_6), (xI i0b3 cI 6 f3n_6), (xI i0b4 cI 6 f4n_6), (xI i0b5 cI 6 f5n_6), (xo_3_iiiiiiiirrrrr i1 i1v0 i1v1 i1v2 i1v3 (nI i1h) i1v5 (nI i1w) (nI i1k) i1b1 i1b2 i1b3 i1b4 i1b5), (xI i1b1 cI 6 i1g1), (xI i1b2 cI 6 i1g2), (xI i1b3 cI 6 i1g3), (xI i1b4 cI 6 i1g4), (xI i1b5 cI 6 i1g5)]) hP hD [0, 14, 15, 16, 17, 18, 19, 1, 8, 9, 10, 11, 12, 13, 2, 3, 4, 5, 6, 7] (by decide +kernel) rfl
          exact W.iret (v := 1) hx hb hr (fun t ht hW => ⟨⟨1, (), rfl, (lf_X7_image_27 nhb nwb nkb hLv hi0 hi1 hg0 hg1 hg2 hg3 hg4 hg5 c_1 c_2 f_3_1_0 hF_6_0 hF_6_1 hF_6_2 hF_6_3 hF_6_4), ⟨nv0, nv1, nv2, nv3, nv5, nhh, nww, nkk, f1n_6, f2n_6, f3n_6, f4n_6, f5n_6, i1v0, i1v1, i1v2, i1v3, i1v5, i1h, i1w, i1k, i1g1, i1g2, i1g3, i1g4, i1g5, va_Ht ht hX9.1, hX9.2, (lf_X7_image_19 nhb nwb nkb hLv hi0 hi1 hg0 hg1 hg2 hg3 hg4 hg5 c_1 c_2 f_3_1_0 hF_6_0 hF_6_1 hF_6_2 hF_6_3 hF_6_4), (lf_X7_image_20 nhb nwb nkb hLv hi0 hi1 hg0 hg1 hg2 hg3 hg4 hg5 c_1 c_2 f_3_1_0 hF_6_0 hF_6_1 hF_6_2 hF_6_3 hF_6_4), (lf_X7_image_21 nhb nwb nkb hLv hi0 hi1 hg0 hg1 hg2 hg3 hg4 hg5 c_1 c_2 f_3_1_0 hF_6_0 hF_6_1 hF_6_2 hF_6_3 hF_6_4), (lf_X7_image_22 nhb nwb nkb hLv hi0 hi1 hg0 hg1 hg2 hg3 hg4 hg5 c_1 c_2 f_3_1_0 hF_6_0 hF_6_1 hF_6_2 hF_6_3 hF_6_4), (lf_X7_image_23 nhb nwb nkb hLv hi0 hi1 hg0 hg1 hg2 hg3 hg4 hg5 c_1 c_2 f_3_1_0 hF_6_0 hF_6_1 hF_6_2 hF_6_3 hF_6_4), (lf_X7_image_24 nhb nwb nkb hLv hi0 hi1 hg0 hg1 hg2 hg3 hg4 hg5 c_1 c_2 f_3_1_0 hF_6_0 hF_6_1 hF_6_2 hF_6_3 hF_6_4), (lf_X7_image_25 nhb nwb nkb hLv hi0 hi1 hg0 hg1 hg2 hg3 hg4 hg5 c_1 c_2 f_3_1_0 hF_6_0 hF_6_1 hF_6_2 hF_6_3 hF_6_4), (lf_X7_image_26 nhb nwb nkb hLv hi0 hi1 hg0 hg1 hg2 hg3 hg4 hg5 c_1 c_2 f_3_1_0 hF_6_0 hF_6_1 hF_6_2 hF_6_3 hF_6_4)⟩⟩, hS.F ht⟩) hS.2.2 dX7_image_43
      · skip
        refine lv_aload_n hx hb dX7_image_16 rfl (lv_at hl 0 rfl) ?_
        refine va_get (D := (dC, dI)) (ci := 7) (v := .ref no) (C := RX7) (T := TX7) (N := 11) hx hb hts i_X7_image_X7 hown hK hP 0 rfl rfl 2 (by decide) (hts _ mx_X7_image_3) (fun _ h9 => h9) rfl dX7_image_17 ?_
        have hPc_7 := hP.sub (ws' := [(xo_3_iiiiiiiirrrrr no nv0 nv1 nv2 nv3 (nI nhh) nv5 (nI nww) (nI nkk) nb1 nb2 nb3 nb4 nb5), (xI nb1 cI 6 ng1), (xI nb2 cI 6 ng2), (xI nb3 cI 6 ng3), (xI nb4 cI 6 ng4), (xI nb5 cI 6 ng5)]) [1, 2, 3, 4, 5, 6] rfl
        refine vp_callSi (W.runV (As := []) (rest := []) ⟨hx, hb, hml, hown, hts⟩ (r_X3_isTold l dC dI cI cZ cL cJ no nv0 nv1 nv2 nv3 nv5 nhh nww nkk nb1 nb2 nb3 nb4 nb5 ng1 ng2 ng3 ng4 ng5 (by omega) (nwb) (nkb)) (cwV 0 hts gX7_image_X3_isTold rfl rfl rfl (by decide +kernel) ⟨Nat.le_of_ble_eq_true rfl, Nat.le_of_ble_eq_true rfl⟩) (pvP 3 1 hK hP rfl rfl hPc_7) rfl rfl hl.1 rfl (lv_room (Nat.le_of_ble_eq_true rfl)) dX7_image_20 ⟨Nat.le_of_ble_eq_true rfl, Nat.le_of_ble_eq_true rfl⟩) (fun r_7 h_7 => ?_)
        rcases h_7 with ⟨h_7, f_7_0_0⟩ | ⟨h_7, f_7_1_0⟩
        · subst h_7
          refine lv_if_ne (tgt := 29) hx hb dX7_image_23 (by decide) (fun c_ => absurd (by decide) c_) (fun _ => ?_)
          refine lv_ldc (own := RX7) (v := (-1000002)) hx hb hown (hts _ mx_X7_image_4) dX7_image_26 ?_
          have hX9 := cut2 (wc := [(xo_7_rrrrrrrrrii x ro ta no ac im tr pl cs ak xf xg), (xo_3_iiiiiiiirrrrr no nv0 nv1 nv2 nv3 (nI nhh) nv5 (nI nww) (nI nkk) nb1 nb2 nb3 nb4 nb5), (xI nb1 cI 6 ng1), (xI nb2 cI 6 ng2), (xI nb3 cI 6 ng3), (xI nb4 cI 6 ng4), (xI nb5 cI 6 ng5), (xJ im cL 2 fi), (xo_3_iiiiiiiirrrrr i0 i0v0 i0v1 i0v2 i0v3 (nI i0h) i0v5 (nI i0w) (nI i0k) i0b1 i0b2 i0b3 i0b4 i0b5), (xI i0b1 cI 6 i0g1), (xI i0b2 cI 6 i0g2), (xI i0b3 cI 6 i0g3), (xI i0b4 cI 6 i0g4), (xI i0b5 cI 6 i0g5), (xo_3_iiiiiiiirrrrr i1 i1v0 i1v1 i1v2 i1v3 (nI i1h) i1v5 (nI i1w) (nI i1k) i1b1 i1b2 i1b3 i1b4 i1b5), (xI i1b1 cI 6 i1g1), (xI i1b2 cI 6 i1g2), (xI i1b3 cI 6 i1g3), (xI i1b4 cI 6 i1g4), (xI i1b5 cI 6 i1g5)]) hP hD [0, 1, 2, 3, 4, 5, 6, 7, 8, 9, 10, 11, 12, 13, 14, 15, 16, 17, 18, 19] (by decide +kernel) rfl
          exact W.iret (v := (-1000002)) hx hb hr (fun t ht hW => ⟨⟨(-1000002), (), rfl, (lf_X7_image_36 nhb nwb nkb hLv hi0 hi1 hg0 hg1 hg2 hg3 hg4 hg5 c_1 c_2 f_7_0_0), ⟨i0v0, i0v1, i0v2, i0v3, i0v5, i0h, i0w, i0k, i0g1, i0g2, i0g3, i0g4, i0g5, i1v0, i1v1, i1v2, i1v3, i1v5, i1h, i1w, i1k, i1g1, i1g2, i1g3, i1g4, i1g5, va_Ht ht hX9.1, hX9.2, (lf_X7_image_28 nhb nwb nkb hLv hi0 hi1 hg0 hg1 hg2 hg3 hg4 hg5 c_1 c_2 f_7_0_0), (lf_X7_image_29 nhb nwb nkb hLv hi0 hi1 hg0 hg1 hg2 hg3 hg4 hg5 c_1 c_2 f_7_0_0), (lf_X7_image_30 nhb nwb nkb hLv hi0 hi1 hg0 hg1 hg2 hg3 hg4 hg5 c_1 c_2 f_7_0_0), (lf_X7_image_31 nhb nwb nkb hLv hi0 hi1 hg0 hg1 hg2 hg3 hg4 hg5 c_1 c_2 f_7_0_0), (lf_X7_image_32 nhb nwb nkb hLv hi0 hi1 hg0 hg1 hg2 hg3 hg4 hg5 c_1 c_2 f_7_0_0), (lf_X7_image_33 nhb nwb nkb hLv hi0 hi1 hg0 hg1 hg2 hg3 hg4 hg5 c_1 c_2 f_7_0_0), (lf_X7_image_34 nhb nwb nkb hLv hi0 hi1 hg0 hg1 hg2 hg3 hg4 hg5 c_1 c_2 f_7_0_0), (lf_X7_image_35 nhb nwb nkb hLv hi0 hi1 hg0 hg1 hg2 hg3 hg4 hg5 c_1 c_2 f_7_0_0)⟩⟩, hS.F ht⟩) hS.2.2 dX7_image_28
        · subst h_7
          refine lv_if_ne (tgt := 29) hx hb dX7_image_23 (by decide) (fun _ => ?_) (fun c_ => absurd c_ (by decide))
          refine lv_aload_n hx hb dX7_image_29 rfl (lv_at hl 0 rfl) ?_
          refine va_get (D := (dC, dI)) (ci := 7) (v := .ref im) (C := RX7) (T := TX7) (N := 11) hx hb hts i_X7_image_X7 hown hK hP 0 rfl rfl 4 (by decide) (hts _ mx_X7_image_1) (fun _ h9 => h9) rfl dX7_image_30 ?_
          refine lv_iload_n hx hb dX7_image_33 rfl (lv_at hl 1 rfl) ?_
          refine va_aldq hx hb hK hP 7 2 rfl rfl (by unfold vp_in; decide) dX7_image_34 ?_
          refine W.eq (g2 := F0 m 35 ls (.ref i1 :: [])) (by show F0 m 35 ls (va_rf (fi (1 : Int32).toNatClampNeg) :: _) = _; rw [show (1 : Int32).toNatClampNeg = 1 from rfl, hi1]; rfl) ?_
          refine lv_aload_n hx hb dX7_image_35 rfl (lv_at hl 0 rfl) ?_
          refine va_get (D := (dC, dI)) (ci := 7) (v := .ref no) (C := RX7) (T := TX7) (N := 11) hx hb hts i_X7_image_X7 hown hK hP 0 rfl rfl 2 (by decide) (hts _ mx_X7_image_3) (fun _ h9 => h9) rfl dX7_image_36 ?_
          have hc_10 := cutW (wc := [(xo_3_iiiiiiiirrrrr i1 i1v0 i1v1 i1v2 i1v3 (nI i1h) i1v5 (nI i1w) (nI i1k) i1b1 i1b2 i1b3 i1b4 i1b5), (xI i1b1 cI 6 i1g1), (xI i1b2 cI 6 i1g2), (xI i1b3 cI 6 i1g3), (xI i1b4 cI 6 i1g4), (xI i1b5 cI 6 i1g5), (xo_3_iiiiiiiirrrrr no nv0 nv1 nv2 nv3 (nI nhh) nv5 (nI nww) (nI nkk) nb1 nb2 nb3 nb4 nb5), (xI nb1 cI 6 ng1), (xI nb2 cI 6 ng2), (xI nb3 cI 6 ng3), (xI nb4 cI 6 ng4), (xI nb5 cI 6 ng5)]) hP hD hS hA [14, 15, 16, 17, 18, 19, 1, 2, 3, 4, 5, 6] (by decide +kernel) rfl
          refine va_callv (va_runV (As := [.ref no]) (rest := []) ⟨hx, hb, hml, hown, hts⟩ (r_X3_becomeLike l dC dI cI cZ cL cJ s.heap.size i1 i1v0 i1v1 i1v2 i1v3 (nI i1h) i1v5 (nI i1w) (nI i1k) i1b1 i1b2 i1b3 i1b4 i1b5 i1g1 i1g2 i1g3 i1g4 i1g5 no nv0 nv1 nv2 nv3 (nI nhh) nv5 (nI nww) (nI nkk) nb1 nb2 nb3 nb4 nb5 ng1 ng2 ng3 ng4 ng5 ) (cwV 1 hts gX7_image_X3_becomeLike rfl rfl rfl (by decide +kernel) ⟨Nat.le_of_ble_eq_true rfl, Nat.le_of_ble_eq_true rfl⟩) (pvW 3 14 hK hP rfl rfl hc_10) rfl rfl hl.1 rfl (lv_room (Nat.le_of_ble_eq_true rfl)) dX7_image_39 ⟨Nat.le_of_ble_eq_true rfl, Nat.le_of_ble_eq_true rfl⟩) hS (fun q _ h => hc_10.2.2 q h) hc_10.2.2 (fun u_10 t_10 H1 locs ht hvm h_10 hB hz1 hk1 hS => ?_)
          refine xl_5_7 hB (fun f1n_10 f2n_10 f3n_10 f4n_10 f5n_10 hP1 hD1 hF_10_0 hF_10_1 hF_10_2 hF_10_3 hF_10_4 => ?_)
          clear hB
          rw [ht] at hP1
          obtain ⟨hP, hD⟩ := va_join (wr := [(xo_7_rrrrrrrrrii x ro ta no ac im tr pl cs ak xf xg), (xJ im cL 2 fi), (xo_3_iiiiiiiirrrrr i0 i0v0 i0v1 i0v2 i0v3 (nI i0h) i0v5 (nI i0w) (nI i0k) i0b1 i0b2 i0b3 i0b4 i0b5), (xI i0b1 cI 6 i0g1), (xI i0b2 cI 6 i0g2), (xI i0b3 cI 6 i0g3), (xI i0b4 cI 6 i0g4), (xI i0b5 cI 6 i0g5)]) (w1 := [(xo_3_iiiiiiiirrrrr i1 nv0 nv1 nv2 nv3 (nI nhh) nv5 (nI nww) (nI nkk) i1b1 i1b2 i1b3 i1b4 i1b5), (xI i1b1 cI 6 f1n_10), (xI i1b2 cI 6 f2n_10), (xI i1b3 cI 6 f3n_10), (xI i1b4 cI 6 f4n_10), (xI i1b5 cI 6 f5n_10), (xo_3_iiiiiiiirrrrr no nv0 nv1 nv2 nv3 (nI nhh) nv5 (nI nww) (nI nkk) nb1 nb2 nb3 nb4 nb5), (xI nb1 cI 6 ng1), (xI nb2 cI 6 ng2), (xI nb3 cI 6 ng3), (xI nb4 cI 6 ng4), (xI nb5 cI 6 ng5)]) hP hD [14, 15, 16, 17, 18, 19, 1, 2, 3, 4, 5, 6] [0, 7, 8, 9, 10, 11, 12, 13] rfl rfl (by decide +kernel) (by decide +kernel) hk1 hc_10.2.2 hP1 hD1
          generalize H1 = H at hP hS ⊢
          have hP : va_P (dC, dI) vwCl [(xo_7_rrrrrrrrrii x ro ta no ac im tr pl cs ak xf xg), (xJ im cL 2 fi), (xo_3_iiiiiiiirrrrr i0 i0v0 i0v1 i0v2 i0v3 (nI i0h) i0v5 (nI i0w) (nI i0k) i0b1 i0b2 i0b3 i0b4 i0b5), (xI i0b1 cI 6 i0g1), (xI i0b2 cI 6 i0g2), (xI i0b3 cI 6 i0g3), (xI i0b4 cI 6 i0g4), (xI i0b5 cI 6 i0g5), (xo_3_iiiiiiiirrrrr i1 nv0 nv1 nv2 nv3 (nI nhh) nv5 (nI nww) (nI nkk) i1b1 i1b2 i1b3 i1b4 i1b5), (xI i1b1 cI 6 f1n_10), (xI i1b2 cI 6 f2n_10), (xI i1b3 cI 6 f3n_10), (xI i1b4 cI 6 f4n_10), (xI i1b5 cI 6 f5n_10), (xo_3_iiiiiiiirrrrr no nv0 nv1 nv2 nv3 (nI nhh) nv5 (nI nww) (nI nkk) nb1 nb2 nb3 nb4 nb5), (xI nb1 cI 6 ng1), (xI nb2 cI 6 ng2), (xI nb3 cI 6 ng3), (xI nb4 cI 6 ng4), (xI nb5 cI 6 ng5)] H := hP
          have hD := dto hP hD
          refine lv_iconst (v := 1) hx hb dX7_image_42 (by decide) ?_
          have hX9 := cut2 (wc := [(xo_7_rrrrrrrrrii x ro ta no ac im tr pl cs ak xf xg), (xo_3_iiiiiiiirrrrr no nv0 nv1 nv2 nv3 (nI nhh) nv5 (nI nww) (nI nkk) nb1 nb2 nb3 nb4 nb5), (xI nb1 cI 6 ng1), (xI nb2 cI 6 ng2), (xI nb3 cI 6 ng3), (xI nb4 cI 6 ng4), (xI nb5 cI 6 ng5), (xJ im cL 2 fi), (xo_3_iiiiiiiirrrrr i0 i0v0 i0v1 i0v2 i0v3 (nI i0h) i0v5 (nI i0w) (nI i0k) i0b1 i0b2 i0b3 i0b4 i0b5), (xI i0b1 cI 6 i0g1), (xI i0b2 cI 6 i0g2), (xI i0b3 cI 6 i0g3), (xI i0b4 cI 6 i0g4), (xI i0b5 cI 6 i0g5), (xo_3_iiiiiiiirrrrr i1 nv0 nv1 nv2 nv3 (nI nhh) nv5 (nI nww) (nI nkk) i1b1 i1b2 i1b3 i1b4 i1b5), (xI i1b1 cI 6 f1n_10), (xI i1b2 cI 6 f2n_10), (xI i1b3 cI 6 f3n_10), (xI i1b4 cI 6 f4n_10), (xI i1b5 cI 6 f5n_10)]) hP hD [0, 14, 15, 16, 17, 18, 19, 1, 2, 3, 4, 5, 6, 7, 8, 9, 10, 11, 12, 13] (by decide +kernel) rfl
          exact W.iret (v := 1) hx hb hr (fun t ht hW => ⟨⟨1, (), rfl, (lf_X7_image_45 nhb nwb nkb hLv hi0 hi1 hg0 hg1 hg2 hg3 hg4 hg5 c_1 c_2 f_7_1_0 hF_10_0 hF_10_1 hF_10_2 hF_10_3 hF_10_4), ⟨i0v0, i0v1, i0v2, i0v3, i0v5, i0h, i0w, i0k, i0g1, i0g2, i0g3, i0g4, i0g5, nv0, nv1, nv2, nv3, nv5, nhh, nww, nkk, f1n_10, f2n_10, f3n_10, f4n_10, f5n_10, va_Ht ht hX9.1, hX9.2, (lf_X7_image_37 nhb nwb nkb hLv hi0 hi1 hg0 hg1 hg2 hg3 hg4 hg5 c_1 c_2 f_7_1_0 hF_10_0 hF_10_1 hF_10_2 hF_10_3 hF_10_4), (lf_X7_image_38 nhb nwb nkb hLv hi0 hi1 hg0 hg1 hg2 hg3 hg4 hg5 c_1 c_2 f_7_1_0 hF_10_0 hF_10_1 hF_10_2 hF_10_3 hF_10_4), (lf_X7_image_39 nhb nwb nkb hLv hi0 hi1 hg0 hg1 hg2 hg3 hg4 hg5 c_1 c_2 f_7_1_0 hF_10_0 hF_10_1 hF_10_2 hF_10_3 hF_10_4), (lf_X7_image_40 nhb nwb nkb hLv hi0 hi1 hg0 hg1 hg2 hg3 hg4 hg5 c_1 c_2 f_7_1_0 hF_10_0 hF_10_1 hF_10_2 hF_10_3 hF_10_4), (lf_X7_image_41 nhb nwb nkb hLv hi0 hi1 hg0 hg1 hg2 hg3 hg4 hg5 c_1 c_2 f_7_1_0 hF_10_0 hF_10_1 hF_10_2 hF_10_3 hF_10_4), (lf_X7_image_42 nhb nwb nkb hLv hi0 hi1 hg0 hg1 hg2 hg3 hg4 hg5 c_1 c_2 f_7_1_0 hF_10_0 hF_10_1 hF_10_2 hF_10_3 hF_10_4), (lf_X7_image_43 nhb nwb nkb hLv hi0 hi1 hg0 hg1 hg2 hg3 hg4 hg5 c_1 c_2 f_7_1_0 hF_10_0 hF_10_1 hF_10_2 hF_10_3 hF_10_4), (lf_X7_image_44 nhb nwb nkb hLv hi0 hi1 hg0 hg1 hg2 hg3 hg4 hg5 c_1 c_2 f_7_1_0 hF_10_0 hF_10_1 hF_10_2 hF_10_3 hF_10_4)⟩⟩, hS.F ht⟩) hS.2.2 dX7_image_43
    · skip
      refine lv_ldc (own := RX7) (v := (-1000001)) hx hb hown (hts _ mx_X7_image_2) dX7_image_13 ?_
      have hX9 := cut2 (wc := [(xo_7_rrrrrrrrrii x ro ta no ac im tr pl cs ak xf xg), (xo_3_iiiiiiiirrrrr no nv0 nv1 nv2 nv3 (nI nhh) nv5 (nI nww) (nI nkk) nb1 nb2 nb3 nb4 nb5), (xI nb1 cI 6 ng1), (xI nb2 cI 6 ng2), (xI nb3 cI 6 ng3), (xI nb4 cI 6 ng4), (xI nb5 cI 6 ng5), (xJ im cL 2 fi), (xo_3_iiiiiiiirrrrr i0 i0v0 i0v1 i0v2 i0v3 (nI i0h) i0v5 (nI i0w) (nI i0k) i0b1 i0b2 i0b3 i0b4 i0b5), (xI i0b1 cI 6 i0g1), (xI i0b2 cI 6 i0g2), (xI i0b3 cI 6 i0g3), (xI i0b4 cI 6 i0g4), (xI i0b5 cI 6 i0g5), (xo_3_iiiiiiiirrrrr i1 i1v0 i1v1 i1v2 i1v3 (nI i1h) i1v5 (nI i1w) (nI i1k) i1b1 i1b2 i1b3 i1b4 i1b5), (xI i1b1 cI 6 i1g1), (xI i1b2 cI 6 i1g2), (xI i1b3 cI 6 i1g3), (xI i1b4 cI 6 i1g4), (xI i1b5 cI 6 i1g5)]) hP hD [0, 1, 2, 3, 4, 5, 6, 7, 8, 9, 10, 11, 12, 13, 14, 15, 16, 17, 18, 19] (by decide +kernel) rfl
      exact W.iret (v := (-1000001)) hx hb hr (fun t ht hW => ⟨⟨(-1000001), (), rfl, (lf_X7_image_54 nhb nwb nkb hLv hi0 hi1 hg0 hg1 hg2 hg3 hg4 hg5 c_1 c_2), ⟨i0v0, i0v1, i0v2, i0v3, i0v5, i0h, i0w, i0k, i0g1, i0g2, i0g3, i0g4, i0g5, i1v0, i1v1, i1v2, i1v3, i1v5, i1h, i1w, i1k, i1g1, i1g2, i1g3, i1g4, i1g5, va_Ht ht hX9.1, hX9.2, (lf_X7_image_46 nhb nwb nkb hLv hi0 hi1 hg0 hg1 hg2 hg3 hg4 hg5 c_1 c_2), (lf_X7_image_47 nhb nwb nkb hLv hi0 hi1 hg0 hg1 hg2 hg3 hg4 hg5 c_1 c_2), (lf_X7_image_48 nhb nwb nkb hLv hi0 hi1 hg0 hg1 hg2 hg3 hg4 hg5 c_1 c_2), (lf_X7_image_49 nhb nwb nkb hLv hi0 hi1 hg0 hg1 hg2 hg3 hg4 hg5 c_1 c_2), (lf_X7_image_50 nhb nwb nkb hLv hi0 hi1 hg0 hg1 hg2 hg3 hg4 hg5 c_1 c_2), (lf_X7_image_51 nhb nwb nkb hLv hi0 hi1 hg0 hg1 hg2 hg3 hg4 hg5 c_1 c_2), (lf_X7_image_52 nhb nwb nkb hLv hi0 hi1 hg0 hg1 hg2 hg3 hg4 hg5 c_1 c_2), (lf_X7_image_53 nhb nwb nkb hLv hi0 hi1 hg0 hg1 hg2 hg3 hg4 hg5 c_1 c_2)⟩⟩, hS.F ht⟩) hS.2.2 dX7_image_15
theorem lf_X7_restore_1 {nhh : Nat} {nww : Nat} {nkk : Nat} {fi : Nat → Option Nat} {i0 : Nat} {i0v0 : Int32} {i0v1 : Int32} {i0v2 : Int32} {i0v3 : Int32} {i0v5 : Int32} {i0h : Nat} {i0w : Nat} {i0k : Nat} {i0g1 : Nat → Int32} {i0g2 : Nat → Int32} {i0g3 : Nat → Int32} {i0g4 : Nat → Int32} {i0g5 : Nat → Int32} {i1 : Nat} {i1v0 : Int32} {i1v1 : Int32} {i1v2 : Int32} {i1v3 : Int32} {i1v5 : Int32} {i1h : Nat} {i1w : Nat} {i1k : Nat} {i1g1 : Nat → Int32} {i1g2 : Nat → Int32} {i1g3 : Nat → Int32} {i1g4 : Nat → Int32} {i1g5 : Nat → Int32} {az : Nat} {k0 : Int32} (nhb : nhh ≤ 999) (nwb : nww ≤ 6) (nkb : nkk ≤ 6) (hi0 : fi 0 = some i0) (hi1 : fi 1 = some i1) (hg0 : i0h ≤ 999) (hg1 : i0w ≤ 6) (hg2 : i0k ≤ 6) (hg3 : i1h ≤ 999) (hg4 : i1w ≤ 6) (hg5 : i1k ≤ 6) (haz : az ≤ 24) (hL0 : okLv (nrm i0v0 i0v1 i0v2 i0v3 i0h i0v5 i0w i0k i0g1 i0g2 i0g3 i0g4 i0g5)) (hL1 : okLv (nrm i1v0 i1v1 i1v2 i1v3 i1h i1v5 i1w i1k i1g1 i1g2 i1g3 i1g4 i1g5)) (c_1 : k0 < 0) : nhh ≤ 999 := by
  first
  | assumption
  | omega
  | (first | exact (xrs_b (Lv := (nrm i0v0 i0v1 i0v2 i0v3 i0h i0v5 i0w i0k i0g1 i0g2 i0g3 i0g4 i0g5)) (An := az) (I0 := (nrm i0v0 i0v1 i0v2 i0v3 i0h i0v5 i0w i0k i0g1 i0g2 i0g3 i0g4 i0g5)) (I1 := (nrm i1v0 i1v1 i1v2 i1v3 i1h i1v5 i1w i1k i1g1 i1g2 i1g3 i1g4 i1g5)) (Or.inl c_1)).2.1.symm | exact (xrs_b (Lv := (nrm i0v0 i0v1 i0v2 i0v3 i0h i0v5 i0w i0k i0g1 i0g2 i0g3 i0g4 i0g5)) (An := az) (I0 := (nrm i0v0 i0v1 i0v2 i0v3 i0h i0v5 i0w i0k i0g1 i0g2 i0g3 i0g4 i0g5)) (I1 := (nrm i1v0 i1v1 i1v2 i1v3 i1h i1v5 i1w i1k i1g1 i1g2 i1g3 i1g4 i1g5)) (Or.inl c_1)).2.2.symm | exact (xrs_b (Lv := (nrm nv0 nv1 nv2 nv3 nhh nv5 nww nkk ng1 ng2 ng3 ng4 ng5)) (An := az) (I0 := (nrm i0v0 i0v1 i0v2 i0v3 i0h i0v5 i0w i0k i0g1 i0g2 i0g3 i0g4 i0g5)) (I1 := (nrm i1v0 i1v1 i1v2 i1v3 i1h i1v5 i1w i1k i1g1 i1g2 i1g3 i1g4 i1g5)) (Or.inl c_1)).1.symm)
  | (have y := ((tX hL0 hg1 hg2 (by omega)).1 (by assumption)).1
     first | exact (xrs_00 (Lv := (nrm i0v0 i0v1 i0v2 i0v3 i0h i0v5 i0w i0k i0g1 i0g2 i0g3 i0g4 i0g5)) (An := az) (I0 := (nrm i0v0 i0v1 i0v2 i0v3 i0h i0v5 i0w i0k i0g1 i0g2 i0g3 i0g4 i0g5)) (I1 := (nrm i1v0 i1v1 i1v2 i1v3 i1h i1v5 i1w i1k i1g1 i1g2 i1g3 i1g4 i1g5)) (nr0.trans y)).2.1.symm | exact (xrs_00 (Lv := (nrm i0v0 i0v1 i0v2 i0v3 i0h i0v5 i0w i0k i0g1 i0g2 i0g3 i0g4 i0g5)) (An := az) (I0 := (nrm i0v0 i0v1 i0v2 i0v3 i0h i0v5 i0w i0k i0g1 i0g2 i0g3 i0g4 i0g5)) (I1 := (nrm i1v0 i1v1 i1v2 i1v3 i1h i1v5 i1w i1k i1g1 i1g2 i1g3 i1g4 i1g5)) (nr0.trans y)).2.2.symm | exact (xrs_00 (Lv := (nrm nv0 nv1 nv2 nv3 nhh nv5 nww nkk ng1 ng2 ng3 ng4 ng5)) (An := az) (I0 := (nrm i0v0 i0v1 i0v2 i0v3 i0h i0v5 i0w i0k i0g1 i0g2 i0g3 i0g4 i0g5)) (I1 := (nrm i1v0 i1v1 i1v2 i1v3 i1h i1v5 i1w i1k i1g1 i1g2 i1g3 i1g4 i1g5)) (nr0.trans y)).1.symm)
  | (have y := ((tX hL1 hg4 hg5 (by omega)).1 (by assumption)).1
     first | exact (xrs_10 (Lv := (nrm i0v0 i0v1 i0v2 i0v3 i0h i0v5 i0w i0k i0g1 i0g2 i0g3 i0g4 i0g5)) (An := az) (I0 := (nrm i0v0 i0v1 i0v2 i0v3 i0h i0v5 i0w i0k i0g1 i0g2 i0g3 i0g4 i0g5)) (I1 := (nrm i1v0 i1v1 i1v2 i1v3 i1h i1v5 i1w i1k i1g1 i1g2 i1g3 i1g4 i1g5)) (nr0.trans y)).2.1.symm | exact (xrs_10 (Lv := (nrm i0v0 i0v1 i0v2 i0v3 i0h i0v5 i0w i0k i0g1 i0g2 i0g3 i0g4 i0g5)) (An := az) (I0 := (nrm i0v0 i0v1 i0v2 i0v3 i0h i0v5 i0w i0k i0g1 i0g2 i0g3 i0g4 i0g5)) (I1 := (nrm i1v0 i1v1 i1v2 i1v3 i1h i1v5 i1w i1k i1g1 i1g2 i1g3 i1g4 i1g5)) (nr0.trans y)).2.2.symm | exact (xrs_10 (Lv := (nrm nv0 nv1 nv2 nv3 nhh nv5 nww nkk ng1 ng2 ng3 ng4 ng5)) (An := az) (I0 := (nrm i0v0 i0v1 i0v2 i0v3 i0h i0v5 i0w i0k i0g1 i0g2 i0g3 i0g4 i0g5)) (I1 := (nrm i1v0 i1v1 i1v2 i1v3 i1h i1v5 i1w i1k i1g1 i1g2 i1g3 i1g4 i1g5)) (nr0.trans y)).1.symm)
  | (have y := ((tX hL0 hg1 hg2 (by omega)).2 (by assumption)).1
     first | exact (xrs_01 (Lv := (nrm i0v0 i0v1 i0v2 i0v3 i0h i0v5 i0w i0k i0g1 i0g2 i0g3 i0g4 i0g5)) (An := az) (I0 := (nrm i0v0 i0v1 i0v2 i0v3 i0h i0v5 i0w i0k i0g1 i0g2 i0g3 i0g4 i0g5)) (I1 := (nrm i1v0 i1v1 i1v2 i1v3 i1h i1v5 i1w i1k i1g1 i1g2 i1g3 i1g4 i1g5)) (by rw [nr0]; exact y)).2.1.symm | exact (xrs_01 (Lv := (nrm i0v0 i0v1 i0v2 i0v3 i0h i0v5 i0w i0k i0g1 i0g2 i0g3 i0g4 i0g5)) (An := az) (I0 := (nrm i0v0 i0v1 i0v2 i0v3 i0h i0v5 i0w i0k i0g1 i0g2 i0g3 i0g4 i0g5)) (I1 := (nrm i1v0 i1v1 i1v2 i1v3 i1h i1v5 i1w i1k i1g1 i1g2 i1g3 i1g4 i1g5)) (by rw [nr0]; exact y)).2.2.symm | exact (nr_eq hg1 hg2 (by assumption) (by assumption) (by assumption) (by assumption) (by assumption)).trans (xrs_01 (Lv := (nrm nv0 nv1 nv2 nv3 nhh nv5 nww nkk ng1 ng2 ng3 ng4 ng5)) (An := az) (I0 := (nrm i0v0 i0v1 i0v2 i0v3 i0h i0v5 i0w i0k i0g1 i0g2 i0g3 i0g4 i0g5)) (I1 := (nrm i1v0 i1v1 i1v2 i1v3 i1h i1v5 i1w i1k i1g1 i1g2 i1g3 i1g4 i1g5)) (by rw [nr0]; exact y)).1.symm)
  | (have y := ((tX hL1 hg4 hg5 (by omega)).2 (by assumption)).1
     first | exact (xrs_11 (Lv := (nrm i0v0 i0v1 i0v2 i0v3 i0h i0v5 i0w i0k i0g1 i0g2 i0g3 i0g4 i0g5)) (An := az) (I0 := (nrm i0v0 i0v1 i0v2 i0v3 i0h i0v5 i0w i0k i0g1 i0g2 i0g3 i0g4 i0g5)) (I1 := (nrm i1v0 i1v1 i1v2 i1v3 i1h i1v5 i1w i1k i1g1 i1g2 i1g3 i1g4 i1g5)) (by rw [nr0]; exact y)).2.1.symm | exact (xrs_11 (Lv := (nrm i0v0 i0v1 i0v2 i0v3 i0h i0v5 i0w i0k i0g1 i0g2 i0g3 i0g4 i0g5)) (An := az) (I0 := (nrm i0v0 i0v1 i0v2 i0v3 i0h i0v5 i0w i0k i0g1 i0g2 i0g3 i0g4 i0g5)) (I1 := (nrm i1v0 i1v1 i1v2 i1v3 i1h i1v5 i1w i1k i1g1 i1g2 i1g3 i1g4 i1g5)) (by rw [nr0]; exact y)).2.2.symm | exact (nr_eq hg4 hg5 (by assumption) (by assumption) (by assumption) (by assumption) (by assumption)).trans (xrs_11 (Lv := (nrm nv0 nv1 nv2 nv3 nhh nv5 nww nkk ng1 ng2 ng3 ng4 ng5)) (An := az) (I0 := (nrm i0v0 i0v1 i0v2 i0v3 i0h i0v5 i0w i0k i0g1 i0g2 i0g3 i0g4 i0g5)) (I1 := (nrm i1v0 i1v1 i1v2 i1v3 i1h i1v5 i1w i1k i1g1 i1g2 i1g3 i1g4 i1g5)) (by rw [nr0]; exact y)).1.symm)
theorem lf_X7_restore_2 {nhh : Nat} {nww : Nat} {nkk : Nat} {fi : Nat → Option Nat} {i0 : Nat} {i0v0 : Int32} {i0v1 : Int32} {i0v2 : Int32} {i0v3 : Int32} {i0v5 : Int32} {i0h : Nat} {i0w : Nat} {i0k : Nat} {i0g1 : Nat → Int32} {i0g2 : Nat → Int32} {i0g3 : Nat → Int32} {i0g4 : Nat → Int32} {i0g5 : Nat → Int32} {i1 : Nat} {i1v0 : Int32} {i1v1 : Int32} {i1v2 : Int32} {i1v3 : Int32} {i1v5 : Int32} {i1h : Nat} {i1w : Nat} {i1k : Nat} {i1g1 : Nat → Int32} {i1g2 : Nat → Int32} {i1g3 : Nat → Int32} {i1g4 : Nat → Int32} {i1g5 : Nat → Int32} {az : Nat} {k0 : Int32} (nhb : nhh ≤ 999) (nwb : nww ≤ 6) (nkb : nkk ≤ 6) (hi0 : fi 0 = some i0) (hi1 : fi 1 = some i1) (hg0 : i0h ≤ 999) (hg1 : i0w ≤ 6) (hg2 : i0k ≤ 6) (hg3 : i1h ≤ 999) (hg4 : i1w ≤ 6) (hg5 : i1k ≤ 6) (haz : az ≤ 24) (hL0 : okLv (nrm i0v0 i0v1 i0v2 i0v3 i0h i0v5 i0w i0k i0g1 i0g2 i0g3 i0g4 i0g5)) (hL1 : okLv (nrm i1v0 i1v1 i1v2 i1v3 i1h i1v5 i1w i1k i1g1 i1g2 i1g3 i1g4 i1g5)) (c_1 : k0 < 0) : nww ≤ 6 := by
  first
  | assumption
  | omega
  | (first | exact (xrs_b (Lv := (nrm i0v0 i0v1 i0v2 i0v3 i0h i0v5 i0w i0k i0g1 i0g2 i0g3 i0g4 i0g5)) (An := az) (I0 := (nrm i0v0 i0v1 i0v2 i0v3 i0h i0v5 i0w i0k i0g1 i0g2 i0g3 i0g4 i0g5)) (I1 := (nrm i1v0 i1v1 i1v2 i1v3 i1h i1v5 i1w i1k i1g1 i1g2 i1g3 i1g4 i1g5)) (Or.inl c_1)).2.1.symm | exact (xrs_b (Lv := (nrm i0v0 i0v1 i0v2 i0v3 i0h i0v5 i0w i0k i0g1 i0g2 i0g3 i0g4 i0g5)) (An := az) (I0 := (nrm i0v0 i0v1 i0v2 i0v3 i0h i0v5 i0w i0k i0g1 i0g2 i0g3 i0g4 i0g5)) (I1 := (nrm i1v0 i1v1 i1v2 i1v3 i1h i1v5 i1w i1k i1g1 i1g2 i1g3 i1g4 i1g5)) (Or.inl c_1)).2.2.symm | exact (xrs_b (Lv := (nrm nv0 nv1 nv2 nv3 nhh nv5 nww nkk ng1 ng2 ng3 ng4 ng5)) (An := az) (I0 := (nrm i0v0 i0v1 i0v2 i0v3 i0h i0v5 i0w i0k i0g1 i0g2 i0g3 i0g4 i0g5)) (I1 := (nrm i1v0 i1v1 i1v2 i1v3 i1h i1v5 i1w i1k i1g1 i1g2 i1g3 i1g4 i1g5)) (Or.inl c_1)).1.symm)
  | (have y := ((tX hL0 hg1 hg2 (by omega)).1 (by assumption)).1
     first | exact (xrs_00 (Lv := (nrm i0v0 i0v1 i0v2 i0v3 i0h i0v5 i0w i0k i0g1 i0g2 i0g3 i0g4 i0g5)) (An := az) (I0 := (nrm i0v0 i0v1 i0v2 i0v3 i0h i0v5 i0w i0k i0g1 i0g2 i0g3 i0g4 i0g5)) (I1 := (nrm i1v0 i1v1 i1v2 i1v3 i1h i1v5 i1w i1k i1g1 i1g2 i1g3 i1g4 i1g5)) (nr0.trans y)).2.1.symm | exact (xrs_00 (Lv := (nrm i0v0 i0v1 i0v2 i0v3 i0h i0v5 i0w i0k i0g1 i0g2 i0g3 i0g4 i0g5)) (An := az) (I0 := (nrm i0v0 i0v1 i0v2 i0v3 i0h i0v5 i0w i0k i0g1 i0g2 i0g3 i0g4 i0g5)) (I1 := (nrm i1v0 i1v1 i1v2 i1v3 i1h i1v5 i1w i1k i1g1 i1g2 i1g3 i1g4 i1g5)) (nr0.trans y)).2.2.symm | exact (xrs_00 (Lv := (nrm nv0 nv1 nv2 nv3 nhh nv5 nww nkk ng1 ng2 ng3 ng4 ng5)) (An := az) (I0 := (nrm i0v0 i0v1 i0v2 i0v3 i0h i0v5 i0w i0k i0g1 i0g2 i0g3 i0g4 i0g5)) (I1 := (nrm i1v0 i1v1 i1v2 i1v3 i1h i1v5 i1w i1k i1g1 i1g2 i1g3 i1g4 i1g5)) (nr0.trans y)).1.symm)
  | (have y := ((tX hL1 hg4 hg5 (by omega)).1 (by assumption)).1
     first | exact (xrs_10 (Lv := (nrm i0v0 i0v1 i0v2 i0v3 i0h i0v5 i0w i0k i0g1 i0g2 i0g3 i0g4 i0g5)) (An := az) (I0 := (nrm i0v0 i0v1 i0v2 i0v3 i0h i0v5 i0w i0k i0g1 i0g2 i0g3 i0g4 i0g5)) (I1 := (nrm i1v0 i1v1 i1v2 i1v3 i1h i1v5 i1w i1k i1g1 i1g2 i1g3 i1g4 i1g5)) (nr0.trans y)).2.1.symm | exact (xrs_10 (Lv := (nrm i0v0 i0v1 i0v2 i0v3 i0h i0v5 i0w i0k i0g1 i0g2 i0g3 i0g4 i0g5)) (An := az) (I0 := (nrm i0v0 i0v1 i0v2 i0v3 i0h i0v5 i0w i0k i0g1 i0g2 i0g3 i0g4 i0g5)) (I1 := (nrm i1v0 i1v1 i1v2 i1v3 i1h i1v5 i1w i1k i1g1 i1g2 i1g3 i1g4 i1g5)) (nr0.trans y)).2.2.symm | exact (xrs_10 (Lv := (nrm nv0 nv1 nv2 nv3 nhh nv5 nww nkk ng1 ng2 ng3 ng4 ng5)) (An := az) (I0 := (nrm i0v0 i0v1 i0v2 i0v3 i0h i0v5 i0w i0k i0g1 i0g2 i0g3 i0g4 i0g5)) (I1 := (nrm i1v0 i1v1 i1v2 i1v3 i1h i1v5 i1w i1k i1g1 i1g2 i1g3 i1g4 i1g5)) (nr0.trans y)).1.symm)
  | (have y := ((tX hL0 hg1 hg2 (by omega)).2 (by assumption)).1
     first | exact (xrs_01 (Lv := (nrm i0v0 i0v1 i0v2 i0v3 i0h i0v5 i0w i0k i0g1 i0g2 i0g3 i0g4 i0g5)) (An := az) (I0 := (nrm i0v0 i0v1 i0v2 i0v3 i0h i0v5 i0w i0k i0g1 i0g2 i0g3 i0g4 i0g5)) (I1 := (nrm i1v0 i1v1 i1v2 i1v3 i1h i1v5 i1w i1k i1g1 i1g2 i1g3 i1g4 i1g5)) (by rw [nr0]; exact y)).2.1.symm | exact (xrs_01 (Lv := (nrm i0v0 i0v1 i0v2 i0v3 i0h i0v5 i0w i0k i0g1 i0g2 i0g3 i0g4 i0g5)) (An := az) (I0 := (nrm i0v0 i0v1 i0v2 i0v3 i0h i0v5 i0w i0k i0g1 i0g2 i0g3 i0g4 i0g5)) (I1 := (nrm i1v0 i1v1 i1v2 i1v3 i1h i1v5 i1w i1k i1g1 i1g2 i1g3 i1g4 i1g5)) (by rw [nr0]; exact y)).2.2.symm | exact (nr_eq hg1 hg2 (by assumption) (by assumption) (by assumption) (by assumption) (by assumption)).trans (xrs_01 (Lv := (nrm nv0 nv1 nv2 nv3 nhh nv5 nww nkk ng1 ng2 ng3 ng4 ng5)) (An := az) (I0 := (nrm i0v0 i0v1 i0v2 i0v3 i0h i0v5 i0w i0k i0g1 i0g2 i0g3 i0g4 i0g5)) (I1 := (nrm i1v0 i1v1 i1v2 i1v3 i1h i1v5 i1w i1k i1g1 i1g2 i1g3 i1g4 i1g5)) (by rw [nr0]; exact y)).1.symm)
  | (have y := ((tX hL1 hg4 hg5 (by omega)).2 (by assumption)).1
     first | exact (xrs_11 (Lv := (nrm i0v0 i0v1 i0v2 i0v3 i0h i0v5 i0w i0k i0g1 i0g2 i0g3 i0g4 i0g5)) (An := az) (I0 := (nrm i0v0 i0v1 i0v2 i0v3 i0h i0v5 i0w i0k i0g1 i0g2 i0g3 i0g4 i0g5)) (I1 := (nrm i1v0 i1v1 i1v2 i1v3 i1h i1v5 i1w i1k i1g1 i1g2 i1g3 i1g4 i1g5)) (by rw [nr0]; exact y)).2.1.symm | exact (xrs_11 (Lv := (nrm i0v0 i0v1 i0v2 i0v3 i0h i0v5 i0w i0k i0g1 i0g2 i0g3 i0g4 i0g5)) (An := az) (I0 := (nrm i0v0 i0v1 i0v2 i0v3 i0h i0v5 i0w i0k i0g1 i0g2 i0g3 i0g4 i0g5)) (I1 := (nrm i1v0 i1v1 i1v2 i1v3 i1h i1v5 i1w i1k i1g1 i1g2 i1g3 i1g4 i1g5)) (by rw [nr0]; exact y)).2.2.symm | exact (nr_eq hg4 hg5 (by assumption) (by assumption) (by assumption) (by assumption) (by assumption)).trans (xrs_11 (Lv := (nrm nv0 nv1 nv2 nv3 nhh nv5 nww nkk ng1 ng2 ng3 ng4 ng5)) (An := az) (I0 := (nrm i0v0 i0v1 i0v2 i0v3 i0h i0v5 i0w i0k i0g1 i0g2 i0g3 i0g4 i0g5)) (I1 := (nrm i1v0 i1v1 i1v2 i1v3 i1h i1v5 i1w i1k i1g1 i1g2 i1g3 i1g4 i1g5)) (by rw [nr0]; exact y)).1.symm)
theorem lf_X7_restore_3 {nhh : Nat} {nww : Nat} {nkk : Nat} {fi : Nat → Option Nat} {i0 : Nat} {i0v0 : Int32} {i0v1 : Int32} {i0v2 : Int32} {i0v3 : Int32} {i0v5 : Int32} {i0h : Nat} {i0w : Nat} {i0k : Nat} {i0g1 : Nat → Int32} {i0g2 : Nat → Int32} {i0g3 : Nat → Int32} {i0g4 : Nat → Int32} {i0g5 : Nat → Int32} {i1 : Nat} {i1v0 : Int32} {i1v1 : Int32} {i1v2 : Int32} {i1v3 : Int32} {i1v5 : Int32} {i1h : Nat} {i1w : Nat} {i1k : Nat} {i1g1 : Nat → Int32} {i1g2 : Nat → Int32} {i1g3 : Nat → Int32} {i1g4 : Nat → Int32} {i1g5 : Nat → Int32} {az : Nat} {k0 : Int32} (nhb : nhh ≤ 999) (nwb : nww ≤ 6) (nkb : nkk ≤ 6) (hi0 : fi 0 = some i0) (hi1 : fi 1 = some i1) (hg0 : i0h ≤ 999) (hg1 : i0w ≤ 6) (hg2 : i0k ≤ 6) (hg3 : i1h ≤ 999) (hg4 : i1w ≤ 6) (hg5 : i1k ≤ 6) (haz : az ≤ 24) (hL0 : okLv (nrm i0v0 i0v1 i0v2 i0v3 i0h i0v5 i0w i0k i0g1 i0g2 i0g3 i0g4 i0g5)) (hL1 : okLv (nrm i1v0 i1v1 i1v2 i1v3 i1h i1v5 i1w i1k i1g1 i1g2 i1g3 i1g4 i1g5)) (c_1 : k0 < 0) : nkk ≤ 6 := by
  first
  | assumption
  | omega
  | (first | exact (xrs_b (Lv := (nrm i0v0 i0v1 i0v2 i0v3 i0h i0v5 i0w i0k i0g1 i0g2 i0g3 i0g4 i0g5)) (An := az) (I0 := (nrm i0v0 i0v1 i0v2 i0v3 i0h i0v5 i0w i0k i0g1 i0g2 i0g3 i0g4 i0g5)) (I1 := (nrm i1v0 i1v1 i1v2 i1v3 i1h i1v5 i1w i1k i1g1 i1g2 i1g3 i1g4 i1g5)) (Or.inl c_1)).2.1.symm | exact (xrs_b (Lv := (nrm i0v0 i0v1 i0v2 i0v3 i0h i0v5 i0w i0k i0g1 i0g2 i0g3 i0g4 i0g5)) (An := az) (I0 := (nrm i0v0 i0v1 i0v2 i0v3 i0h i0v5 i0w i0k i0g1 i0g2 i0g3 i0g4 i0g5)) (I1 := (nrm i1v0 i1v1 i1v2 i1v3 i1h i1v5 i1w i1k i1g1 i1g2 i1g3 i1g4 i1g5)) (Or.inl c_1)).2.2.symm | exact (xrs_b (Lv := (nrm nv0 nv1 nv2 nv3 nhh nv5 nww nkk ng1 ng2 ng3 ng4 ng5)) (An := az) (I0 := (nrm i0v0 i0v1 i0v2 i0v3 i0h i0v5 i0w i0k i0g1 i0g2 i0g3 i0g4 i0g5)) (I1 := (nrm i1v0 i1v1 i1v2 i1v3 i1h i1v5 i1w i1k i1g1 i1g2 i1g3 i1g4 i1g5)) (Or.inl c_1)).1.symm)
  | (have y := ((tX hL0 hg1 hg2 (by omega)).1 (by assumption)).1
     first | exact (xrs_00 (Lv := (nrm i0v0 i0v1 i0v2 i0v3 i0h i0v5 i0w i0k i0g1 i0g2 i0g3 i0g4 i0g5)) (An := az) (I0 := (nrm i0v0 i0v1 i0v2 i0v3 i0h i0v5 i0w i0k i0g1 i0g2 i0g3 i0g4 i0g5)) (I1 := (nrm i1v0 i1v1 i1v2 i1v3 i1h i1v5 i1w i1k i1g1 i1g2 i1g3 i1g4 i1g5)) (nr0.trans y)).2.1.symm | exact (xrs_00 (Lv := (nrm i0v0 i0v1 i0v2 i0v3 i0h i0v5 i0w i0k i0g1 i0g2 i0g3 i0g4 i0g5)) (An := az) (I0 := (nrm i0v0 i0v1 i0v2 i0v3 i0h i0v5 i0w i0k i0g1 i0g2 i0g3 i0g4 i0g5)) (I1 := (nrm i1v0 i1v1 i1v2 i1v3 i1h i1v5 i1w i1k i1g1 i1g2 i1g3 i1g4 i1g5)) (nr0.trans y)).2.2.symm | exact (xrs_00 (Lv := (nrm nv0 nv1 nv2 nv3 nhh nv5 nww nkk ng1 ng2 ng3 ng4 ng5)) (An := az) (I0 := (nrm i0v0 i0v1 i0v2 i0v3 i0h i0v5 i0w i0k i0g1 i0g2 i0g3 i0g4 i0g5)) (I1 := (nrm i1v0 i1v1 i1v2 i1v3 i1h i1v5 i1w i1k i1g1 i1g2 i1g3 i1g4 i1g5)) (nr0.trans y)).1.symm)
  | (have y := ((tX hL1 hg4 hg5 (by omega)).1 (by assumption)).1
     first | exact (xrs_10 (Lv := (nrm i0v0 i0v1 i0v2 i0v3 i0h i0v5 i0w i0k i0g1 i0g2 i0g3 i0g4 i0g5)) (An := az) (I0 := (nrm i0v0 i0v1 i0v2 i0v3 i0h i0v5 i0w i0k i0g1 i0g2 i0g3 i0g4 i0g5)) (I1 := (nrm i1v0 i1v1 i1v2 i1v3 i1h i1v5 i1w i1k i1g1 i1g2 i1g3 i1g4 i1g5)) (nr0.trans y)).2.1.symm | exact (xrs_10 (Lv := (nrm i0v0 i0v1 i0v2 i0v3 i0h i0v5 i0w i0k i0g1 i0g2 i0g3 i0g4 i0g5)) (An := az) (I0 := (nrm i0v0 i0v1 i0v2 i0v3 i0h i0v5 i0w i0k i0g1 i0g2 i0g3 i0g4 i0g5)) (I1 := (nrm i1v0 i1v1 i1v2 i1v3 i1h i1v5 i1w i1k i1g1 i1g2 i1g3 i1g4 i1g5)) (nr0.trans y)).2.2.symm | exact (xrs_10 (Lv := (nrm nv0 nv1 nv2 nv3 nhh nv5 nww nkk ng1 ng2 ng3 ng4 ng5)) (An := az) (I0 := (nrm i0v0 i0v1 i0v2 i0v3 i0h i0v5 i0w i0k i0g1 i0g2 i0g3 i0g4 i0g5)) (I1 := (nrm i1v0 i1v1 i1v2 i1v3 i1h i1v5 i1w i1k i1g1 i1g2 i1g3 i1g4 i1g5)) (nr0.trans y)).1.symm)
  | (have y := ((tX hL0 hg1 hg2 (by omega)).2 (by assumption)).1
     first | exact (xrs_01 (Lv := (nrm i0v0 i0v1 i0v2 i0v3 i0h i0v5 i0w i0k i0g1 i0g2 i0g3 i0g4 i0g5)) (An := az) (I0 := (nrm i0v0 i0v1 i0v2 i0v3 i0h i0v5 i0w i0k i0g1 i0g2 i0g3 i0g4 i0g5)) (I1 := (nrm i1v0 i1v1 i1v2 i1v3 i1h i1v5 i1w i1k i1g1 i1g2 i1g3 i1g4 i1g5)) (by rw [nr0]; exact y)).2.1.symm | exact (xrs_01 (Lv := (nrm i0v0 i0v1 i0v2 i0v3 i0h i0v5 i0w i0k i0g1 i0g2 i0g3 i0g4 i0g5)) (An := az) (I0 := (nrm i0v0 i0v1 i0v2 i0v3 i0h i0v5 i0w i0k i0g1 i0g2 i0g3 i0g4 i0g5)) (I1 := (nrm i1v0 i1v1 i1v2 i1v3 i1h i1v5 i1w i1k i1g1 i1g2 i1g3 i1g4 i1g5)) (by rw [nr0]; exact y)).2.2.symm | exact (nr_eq hg1 hg2 (by assumption) (by assumption) (by assumption) (by assumption) (by assumption)).trans (xrs_01 (Lv := (nrm nv0 nv1 nv2 nv3 nhh nv5 nww nkk ng1 ng2 ng3 ng4 ng5)) (An := az) (I0 := (nrm i0v0 i0v1 i0v2 i0v3 i0h i0v5 i0w i0k i0g1 i0g2 i0g3 i0g4 i0g5)) (I1 := (nrm i1v0 i1v1 i1v2 i1v3 i1h i1v5 i1w i1k i1g1 i1g2 i1g3 i1g4 i1g5)) (by rw [nr0]; exact y)).1.symm)
  | (have y := ((tX hL1 hg4 hg5 (by omega)).2 (by assumption)).1
     first | exact (xrs_11 (Lv := (nrm i0v0 i0v1 i0v2 i0v3 i0h i0v5 i0w i0k i0g1 i0g2 i0g3 i0g4 i0g5)) (An := az) (I0 := (nrm i0v0 i0v1 i0v2 i0v3 i0h i0v5 i0w i0k i0g1 i0g2 i0g3 i0g4 i0g5)) (I1 := (nrm i1v0 i1v1 i1v2 i1v3 i1h i1v5 i1w i1k i1g1 i1g2 i1g3 i1g4 i1g5)) (by rw [nr0]; exact y)).2.1.symm | exact (xrs_11 (Lv := (nrm i0v0 i0v1 i0v2 i0v3 i0h i0v5 i0w i0k i0g1 i0g2 i0g3 i0g4 i0g5)) (An := az) (I0 := (nrm i0v0 i0v1 i0v2 i0v3 i0h i0v5 i0w i0k i0g1 i0g2 i0g3 i0g4 i0g5)) (I1 := (nrm i1v0 i1v1 i1v2 i1v3 i1h i1v5 i1w i1k i1g1 i1g2 i1g3 i1g4 i1g5)) (by rw [nr0]; exact y)).2.2.symm | exact (nr_eq hg4 hg5 (by assumption) (by assumption) (by assumption) (by assumption) (by assumption)).trans (xrs_11 (Lv := (nrm nv0 nv1 nv2 nv3 nhh nv5 nww nkk ng1 ng2 ng3 ng4 ng5)) (An := az) (I0 := (nrm i0v0 i0v1 i0v2 i0v3 i0h i0v5 i0w i0k i0g1 i0g2 i0g3 i0g4 i0g5)) (I1 := (nrm i1v0 i1v1 i1v2 i1v3 i1h i1v5 i1w i1k i1g1 i1g2 i1g3 i1g4 i1g5)) (by rw [nr0]; exact y)).1.symm)
theorem lf_X7_restore_4 {nhh : Nat} {nww : Nat} {nkk : Nat} {fi : Nat → Option Nat} {i0 : Nat} {i0v0 : Int32} {i0v1 : Int32} {i0v2 : Int32} {i0v3 : Int32} {i0v5 : Int32} {i0h : Nat} {i0w : Nat} {i0k : Nat} {i0g1 : Nat → Int32} {i0g2 : Nat → Int32} {i0g3 : Nat → Int32} {i0g4 : Nat → Int32} {i0g5 : Nat → Int32} {i1 : Nat} {i1v0 : Int32} {i1v1 : Int32} {i1v2 : Int32} {i1v3 : Int32} {i1v5 : Int32} {i1h : Nat} {i1w : Nat} {i1k : Nat} {i1g1 : Nat → Int32} {i1g2 : Nat → Int32} {i1g3 : Nat → Int32} {i1g4 : Nat → Int32} {i1g5 : Nat → Int32} {az : Nat} {k0 : Int32} (nhb : nhh ≤ 999) (nwb : nww ≤ 6) (nkb : nkk ≤ 6) (hi0 : fi 0 = some i0) (hi1 : fi 1 = some i1) (hg0 : i0h ≤ 999) (hg1 : i0w ≤ 6) (hg2 : i0k ≤ 6) (hg3 : i1h ≤ 999) (hg4 : i1w ≤ 6) (hg5 : i1k ≤ 6) (haz : az ≤ 24) (hL0 : okLv (nrm i0v0 i0v1 i0v2 i0v3 i0h i0v5 i0w i0k i0g1 i0g2 i0g3 i0g4 i0g5)) (hL1 : okLv (nrm i1v0 i1v1 i1v2 i1v3 i1h i1v5 i1w i1k i1g1 i1g2 i1g3 i1g4 i1g5)) (c_1 : k0 < 0) : az ≤ 24 := by
  first
  | assumption
  | omega
  | (first | exact (xrs_b (Lv := (nrm i0v0 i0v1 i0v2 i0v3 i0h i0v5 i0w i0k i0g1 i0g2 i0g3 i0g4 i0g5)) (An := az) (I0 := (nrm i0v0 i0v1 i0v2 i0v3 i0h i0v5 i0w i0k i0g1 i0g2 i0g3 i0g4 i0g5)) (I1 := (nrm i1v0 i1v1 i1v2 i1v3 i1h i1v5 i1w i1k i1g1 i1g2 i1g3 i1g4 i1g5)) (Or.inl c_1)).2.1.symm | exact (xrs_b (Lv := (nrm i0v0 i0v1 i0v2 i0v3 i0h i0v5 i0w i0k i0g1 i0g2 i0g3 i0g4 i0g5)) (An := az) (I0 := (nrm i0v0 i0v1 i0v2 i0v3 i0h i0v5 i0w i0k i0g1 i0g2 i0g3 i0g4 i0g5)) (I1 := (nrm i1v0 i1v1 i1v2 i1v3 i1h i1v5 i1w i1k i1g1 i1g2 i1g3 i1g4 i1g5)) (Or.inl c_1)).2.2.symm | exact (xrs_b (Lv := (nrm nv0 nv1 nv2 nv3 nhh nv5 nww nkk ng1 ng2 ng3 ng4 ng5)) (An := az) (I0 := (nrm i0v0 i0v1 i0v2 i0v3 i0h i0v5 i0w i0k i0g1 i0g2 i0g3 i0g4 i0g5)) (I1 := (nrm i1v0 i1v1 i1v2 i1v3 i1h i1v5 i1w i1k i1g1 i1g2 i1g3 i1g4 i1g5)) (Or.inl c_1)).1.symm)
  | (have y := ((tX hL0 hg1 hg2 (by omega)).1 (by assumption)).1
     first | exact (xrs_00 (Lv := (nrm i0v0 i0v1 i0v2 i0v3 i0h i0v5 i0w i0k i0g1 i0g2 i0g3 i0g4 i0g5)) (An := az) (I0 := (nrm i0v0 i0v1 i0v2 i0v3 i0h i0v5 i0w i0k i0g1 i0g2 i0g3 i0g4 i0g5)) (I1 := (nrm i1v0 i1v1 i1v2 i1v3 i1h i1v5 i1w i1k i1g1 i1g2 i1g3 i1g4 i1g5)) (nr0.trans y)).2.1.symm | exact (xrs_00 (Lv := (nrm i0v0 i0v1 i0v2 i0v3 i0h i0v5 i0w i0k i0g1 i0g2 i0g3 i0g4 i0g5)) (An := az) (I0 := (nrm i0v0 i0v1 i0v2 i0v3 i0h i0v5 i0w i0k i0g1 i0g2 i0g3 i0g4 i0g5)) (I1 := (nrm i1v0 i1v1 i1v2 i1v3 i1h i1v5 i1w i1k i1g1 i1g2 i1g3 i1g4 i1g5)) (nr0.trans y)).2.2.symm | exact (xrs_00 (Lv := (nrm nv0 nv1 nv2 nv3 nhh nv5 nww nkk ng1 ng2 ng3 ng4 ng5)) (An := az) (I0 := (nrm i0v0 i0v1 i0v2 i0v3 i0h i0v5 i0w i0k i0g1 i0g2 i0g3 i0g4 i0g5)) (I1 := (nrm i1v0 i1v1 i1v2 i1v3 i1h i1v5 i1w i1k i1g1 i1g2 i1g3 i1g4 i1g5)) (nr0.trans y)).1.symm)
  | (have y := ((tX hL1 hg4 hg5 (by omega)).1 (by assumption)).1
     first | exact (xrs_10 (Lv := (nrm i0v0 i0v1 i0v2 i0v3 i0h i0v5 i0w i0k i0g1 i0g2 i0g3 i0g4 i0g5)) (An := az) (I0 := (nrm i0v0 i0v1 i0v2 i0v3 i0h i0v5 i0w i0k i0g1 i0g2 i0g3 i0g4 i0g5)) (I1 := (nrm i1v0 i1v1 i1v2 i1v3 i1h i1v5 i1w i1k i1g1 i1g2 i1g3 i1g4 i1g5)) (nr0.trans y)).2.1.symm | exact (xrs_10 (Lv := (nrm i0v0 i0v1 i0v2 i0v3 i0h i0v5 i0w i0k i0g1 i0g2 i0g3 i0g4 i0g5)) (An := az) (I0 := (nrm i0v0 i0v1 i0v2 i0v3 i0h i0v5 i0w i0k i0g1 i0g2 i0g3 i0g4 i0g5)) (I1 := (nrm i1v0 i1v1 i1v2 i1v3 i1h i1v5 i1w i1k i1g1 i1g2 i1g3 i1g4 i1g5)) (nr0.trans y)).2.2.symm | exact (xrs_10 (Lv := (nrm nv0 nv1 nv2 nv3 nhh nv5 nww nkk ng1 ng2 ng3 ng4 ng5)) (An := az) (I0 := (nrm i0v0 i0v1 i0v2 i0v3 i0h i0v5 i0w i0k i0g1 i0g2 i0g3 i0g4 i0g5)) (I1 := (nrm i1v0 i1v1 i1v2 i1v3 i1h i1v5 i1w i1k i1g1 i1g2 i1g3 i1g4 i1g5)) (nr0.trans y)).1.symm)
  | (have y := ((tX hL0 hg1 hg2 (by omega)).2 (by assumption)).1
     first | exact (xrs_01 (Lv := (nrm i0v0 i0v1 i0v2 i0v3 i0h i0v5 i0w i0k i0g1 i0g2 i0g3 i0g4 i0g5)) (An := az) (I0 := (nrm i0v0 i0v1 i0v2 i0v3 i0h i0v5 i0w i0k i0g1 i0g2 i0g3 i0g4 i0g5)) (I1 := (nrm i1v0 i1v1 i1v2 i1v3 i1h i1v5 i1w i1k i1g1 i1g2 i1g3 i1g4 i1g5)) (by rw [nr0]; exact y)).2.1.symm | exact (xrs_01 (Lv := (nrm i0v0 i0v1 i0v2 i0v3 i0h i0v5 i0w i0k i0g1 i0g2 i0g3 i0g4 i0g5)) (An := az) (I0 := (nrm i0v0 i0v1 i0v2 i0v3 i0h i0v5 i0w i0k i0g1 i0g2 i0g3 i0g4 i0g5)) (I1 := (nrm i1v0 i1v1 i1v2 i1v3 i1h i1v5 i1w i1k i1g1 i1g2 i1g3 i1g4 i1g5)) (by rw [nr0]; exact y)).2.2.symm | exact (nr_eq hg1 hg2 (by assumption) (by assumption) (by assumption) (by assumption) (by assumption)).trans (xrs_01 (Lv := (nrm nv0 nv1 nv2 nv3 nhh nv5 nww nkk ng1 ng2 ng3 ng4 ng5)) (An := az) (I0 := (nrm i0v0 i0v1 i0v2 i0v3 i0h i0v5 i0w i0k i0g1 i0g2 i0g3 i0g4 i0g5)) (I1 := (nrm i1v0 i1v1 i1v2 i1v3 i1h i1v5 i1w i1k i1g1 i1g2 i1g3 i1g4 i1g5)) (by rw [nr0]; exact y)).1.symm)
  | (have y := ((tX hL1 hg4 hg5 (by omega)).2 (by assumption)).1
     first | exact (xrs_11 (Lv := (nrm i0v0 i0v1 i0v2 i0v3 i0h i0v5 i0w i0k i0g1 i0g2 i0g3 i0g4 i0g5)) (An := az) (I0 := (nrm i0v0 i0v1 i0v2 i0v3 i0h i0v5 i0w i0k i0g1 i0g2 i0g3 i0g4 i0g5)) (I1 := (nrm i1v0 i1v1 i1v2 i1v3 i1h i1v5 i1w i1k i1g1 i1g2 i1g3 i1g4 i1g5)) (by rw [nr0]; exact y)).2.1.symm | exact (xrs_11 (Lv := (nrm i0v0 i0v1 i0v2 i0v3 i0h i0v5 i0w i0k i0g1 i0g2 i0g3 i0g4 i0g5)) (An := az) (I0 := (nrm i0v0 i0v1 i0v2 i0v3 i0h i0v5 i0w i0k i0g1 i0g2 i0g3 i0g4 i0g5)) (I1 := (nrm i1v0 i1v1 i1v2 i1v3 i1h i1v5 i1w i1k i1g1 i1g2 i1g3 i1g4 i1g5)) (by rw [nr0]; exact y)).2.2.symm | exact (nr_eq hg4 hg5 (by assumption) (by assumption) (by assumption) (by assumption) (by assumption)).trans (xrs_11 (Lv := (nrm nv0 nv1 nv2 nv3 nhh nv5 nww nkk ng1 ng2 ng3 ng4 ng5)) (An := az) (I0 := (nrm i0v0 i0v1 i0v2 i0v3 i0h i0v5 i0w i0k i0g1 i0g2 i0g3 i0g4 i0g5)) (I1 := (nrm i1v0 i1v1 i1v2 i1v3 i1h i1v5 i1w i1k i1g1 i1g2 i1g3 i1g4 i1g5)) (by rw [nr0]; exact y)).1.symm)
theorem lf_X7_restore_5 {nv0 : Int32} {nv1 : Int32} {nv2 : Int32} {nv3 : Int32} {nv5 : Int32} {nhh : Nat} {nww : Nat} {nkk : Nat} {ng1 : Nat → Int32} {ng2 : Nat → Int32} {ng3 : Nat → Int32} {ng4 : Nat → Int32} {ng5 : Nat → Int32} {fi : Nat → Option Nat} {i0 : Nat} {i0v0 : Int32} {i0v1 : Int32} {i0v2 : Int32} {i0v3 : Int32} {i0v5 : Int32} {i0h : Nat} {i0w : Nat} {i0k : Nat} {i0g1 : Nat → Int32} {i0g2 : Nat → Int32} {i0g3 : Nat → Int32} {i0g4 : Nat → Int32} {i0g5 : Nat → Int32} {i1 : Nat} {i1v0 : Int32} {i1v1 : Int32} {i1v2 : Int32} {i1v3 : Int32} {i1v5 : Int32} {i1h : Nat} {i1w : Nat} {i1k : Nat} {i1g1 : Nat → Int32} {i1g2 : Nat → Int32} {i1g3 : Nat → Int32} {i1g4 : Nat → Int32} {i1g5 : Nat → Int32} {az : Nat} {k0 : Int32} (nhb : nhh ≤ 999) (nwb : nww ≤ 6) (nkb : nkk ≤ 6) (hi0 : fi 0 = some i0) (hi1 : fi 1 = some i1) (hg0 : i0h ≤ 999) (hg1 : i0w ≤ 6) (hg2 : i0k ≤ 6) (hg3 : i1h ≤ 999) (hg4 : i1w ≤ 6) (hg5 : i1k ≤ 6) (haz : az ≤ 24) (hL0 : okLv (nrm i0v0 i0v1 i0v2 i0v3 i0h i0v5 i0w i0k i0g1 i0g2 i0g3 i0g4 i0g5)) (hL1 : okLv (nrm i1v0 i1v1 i1v2 i1v3 i1h i1v5 i1w i1k i1g1 i1g2 i1g3 i1g4 i1g5)) (c_1 : k0 < 0) : (nrm nv0 nv1 nv2 nv3 nhh nv5 nww nkk ng1 ng2 ng3 ng4 ng5) = n_rst (nrm nv0 nv1 nv2 nv3 nhh nv5 nww nkk ng1 ng2 ng3 ng4 ng5) (nrm i0v0 i0v1 i0v2 i0v3 i0h i0v5 i0w i0k i0g1 i0g2 i0g3 i0g4 i0g5) (nrm i1v0 i1v1 i1v2 i1v3 i1h i1v5 i1w i1k i1g1 i1g2 i1g3 i1g4 i1g5) k0 := by
  first
  | assumption
  | omega
  | (first | exact (xrs_b (Lv := (nrm i0v0 i0v1 i0v2 i0v3 i0h i0v5 i0w i0k i0g1 i0g2 i0g3 i0g4 i0g5)) (An := az) (I0 := (nrm i0v0 i0v1 i0v2 i0v3 i0h i0v5 i0w i0k i0g1 i0g2 i0g3 i0g4 i0g5)) (I1 := (nrm i1v0 i1v1 i1v2 i1v3 i1h i1v5 i1w i1k i1g1 i1g2 i1g3 i1g4 i1g5)) (Or.inl c_1)).2.1.symm | exact (xrs_b (Lv := (nrm i0v0 i0v1 i0v2 i0v3 i0h i0v5 i0w i0k i0g1 i0g2 i0g3 i0g4 i0g5)) (An := az) (I0 := (nrm i0v0 i0v1 i0v2 i0v3 i0h i0v5 i0w i0k i0g1 i0g2 i0g3 i0g4 i0g5)) (I1 := (nrm i1v0 i1v1 i1v2 i1v3 i1h i1v5 i1w i1k i1g1 i1g2 i1g3 i1g4 i1g5)) (Or.inl c_1)).2.2.symm | exact (xrs_b (Lv := (nrm nv0 nv1 nv2 nv3 nhh nv5 nww nkk ng1 ng2 ng3 ng4 ng5)) (An := az) (I0 := (nrm i0v0 i0v1 i0v2 i0v3 i0h i0v5 i0w i0k i0g1 i0g2 i0g3 i0g4 i0g5)) (I1 := (nrm i1v0 i1v1 i1v2 i1v3 i1h i1v5 i1w i1k i1g1 i1g2 i1g3 i1g4 i1g5)) (Or.inl c_1)).1.symm)
  | (have y := ((tX hL0 hg1 hg2 (by omega)).1 (by assumption)).1
     first | exact (xrs_00 (Lv := (nrm i0v0 i0v1 i0v2 i0v3 i0h i0v5 i0w i0k i0g1 i0g2 i0g3 i0g4 i0g5)) (An := az) (I0 := (nrm i0v0 i0v1 i0v2 i0v3 i0h i0v5 i0w i0k i0g1 i0g2 i0g3 i0g4 i0g5)) (I1 := (nrm i1v0 i1v1 i1v2 i1v3 i1h i1v5 i1w i1k i1g1 i1g2 i1g3 i1g4 i1g5)) (nr0.trans y)).2.1.symm | exact (xrs_00 (Lv := (nrm i0v0 i0v1 i0v2 i0v3 i0h i0v5 i0w i0k i0g1 i0g2 i0g3 i0g4 i0g5)) (An := az) (I0 := (nrm i0v0 i0v1 i0v2 i0v3 i0h i0v5 i0w i0k i0g1 i0g2 i0g3 i0g4 i0g5)) (I1 := (nrm i1v0 i1v1 i1v2 i1v3 i1h i1v5 i1w i1k i1g1 i1g2 i1g3 i1g4 i1g5)) (nr0.trans y)).2.2.symm | exact (xrs_00 (Lv := (nrm nv0 nv1 nv2 nv3 nhh nv5 nww nkk ng1 ng2 ng3 ng4 ng5)) (An := az) (I0 := (nrm i0v0 i0v1 i0v2 i0v3 i0h i0v5 i0w i0k i0g1 i0g2 i0g3 i0g4 i0g5)) (I1 := (nrm i1v0 i1v1 i1v2 i1v3 i1h i1v5 i1w i1k i1g1 i1g2 i1g3 i1g4 i1g5)) (nr0.trans y)).1.symm)
  | (have y := ((tX hL1 hg4 hg5 (by omega)).1 (by assumption)).1
     first | exact (xrs_10 (Lv := (nrm i0v0 i0v1 i0v2 i0v3 i0h i0v5 i0w i0k i0g1 i0g2 i0g3 i0g4 i0g5)) (An := az) (I0 := (nrm i0v0 i0v1 i0v2 i0v3 i0h i0v5 i0w i0k i0g1 i0g2 i0g3 i0g4 i0g5)) (I1 := (nrm i1v0 i1v1 i1v2 i1v3 i1h i1v5 i1w i1k i1g1 i1g2 i1g3 i1g4 i1g5)) (nr0.trans y)).2.1.symm | exact (xrs_10 (Lv := (nrm i0v0 i0v1 i0v2 i0v3 i0h i0v5 i0w i0k i0g1 i0g2 i0g3 i0g4 i0g5)) (An := az) (I0 := (nrm i0v0 i0v1 i0v2 i0v3 i0h i0v5 i0w i0k i0g1 i0g2 i0g3 i0g4 i0g5)) (I1 := (nrm i1v0 i1v1 i1v2 i1v3 i1h i1v5 i1w i1k i1g1 i1g2 i1g3 i1g4 i1g5)) (nr0.trans y)).2.2.symm | exact (xrs_10 (Lv := (nrm nv0 nv1 nv2 nv3 nhh nv5 nww nkk ng1 ng2 ng3 ng4 ng5)) (An := az) (I0 := (nrm i0v0 i0v1 i0v2 i0v3 i0h i0v5 i0w i0k i0g1 i0g2 i0g3 i0g4 i0g5)) (I1 := (nrm i1v0 i1v1 i1v2 i1v3 i1h i1v5 i1w i1k i1g1 i1g2 i1g3 i1g4 i1g5)) (nr0.trans y)).1.symm)
  | (have y := ((tX hL0 hg1 hg2 (by omega)).2 (by assumption)).1
     first | exact (xrs_01 (Lv := (nrm i0v0 i0v1 i0v2 i0v3 i0h i0v5 i0w i0k i0g1 i0g2 i0g3 i0g4 i0g5)) (An := az) (I0 := (nrm i0v0 i0v1 i0v2 i0v3 i0h i0v5 i0w i0k i0g1 i0g2 i0g3 i0g4 i0g5)) (I1 := (nrm i1v0 i1v1 i1v2 i1v3 i1h i1v5 i1w i1k i1g1 i1g2 i1g3 i1g4 i1g5)) (by rw [nr0]; exact y)).2.1.symm | exact (xrs_01 (Lv := (nrm i0v0 i0v1 i0v2 i0v3 i0h i0v5 i0w i0k i0g1 i0g2 i0g3 i0g4 i0g5)) (An := az) (I0 := (nrm i0v0 i0v1 i0v2 i0v3 i0h i0v5 i0w i0k i0g1 i0g2 i0g3 i0g4 i0g5)) (I1 := (nrm i1v0 i1v1 i1v2 i1v3 i1h i1v5 i1w i1k i1g1 i1g2 i1g3 i1g4 i1g5)) (by rw [nr0]; exact y)).2.2.symm | exact (nr_eq hg1 hg2 (by assumption) (by assumption) (by assumption) (by assumption) (by assumption)).trans (xrs_01 (Lv := (nrm nv0 nv1 nv2 nv3 nhh nv5 nww nkk ng1 ng2 ng3 ng4 ng5)) (An := az) (I0 := (nrm i0v0 i0v1 i0v2 i0v3 i0h i0v5 i0w i0k i0g1 i0g2 i0g3 i0g4 i0g5)) (I1 := (nrm i1v0 i1v1 i1v2 i1v3 i1h i1v5 i1w i1k i1g1 i1g2 i1g3 i1g4 i1g5)) (by rw [nr0]; exact y)).1.symm)
  | (have y := ((tX hL1 hg4 hg5 (by omega)).2 (by assumption)).1
     first | exact (xrs_11 (Lv := (nrm i0v0 i0v1 i0v2 i0v3 i0h i0v5 i0w i0k i0g1 i0g2 i0g3 i0g4 i0g5)) (An := az) (I0 := (nrm i0v0 i0v1 i0v2 i0v3 i0h i0v5 i0w i0k i0g1 i0g2 i0g3 i0g4 i0g5)) (I1 := (nrm i1v0 i1v1 i1v2 i1v3 i1h i1v5 i1w i1k i1g1 i1g2 i1g3 i1g4 i1g5)) (by rw [nr0]; exact y)).2.1.symm | exact (xrs_11 (Lv := (nrm i0v0 i0v1 i0v2 i0v3 i0h i0v5 i0w i0k i0g1 i0g2 i0g3 i0g4 i0g5)) (An := az) (I0 := (nrm i0v0 i0v1 i0v2 i0v3 i0h i0v5 i0w i0k i0g1 i0g2 i0g3 i0g4 i0g5)) (I1 := (nrm i1v0 i1v1 i1v2 i1v3 i1h i1v5 i1w i1k i1g1 i1g2 i1g3 i1g4 i1g5)) (by rw [nr0]; exact y)).2.2.symm | exact (nr_eq hg4 hg5 (by assumption) (by assumption) (by assumption) (by assumption) (by assumption)).trans (xrs_11 (Lv := (nrm nv0 nv1 nv2 nv3 nhh nv5 nww nkk ng1 ng2 ng3 ng4 ng5)) (An := az) (I0 := (nrm i0v0 i0v1 i0v2 i0v3 i0h i0v5 i0w i0k i0g1 i0g2 i0g3 i0g4 i0g5)) (I1 := (nrm i1v0 i1v1 i1v2 i1v3 i1h i1v5 i1w i1k i1g1 i1g2 i1g3 i1g4 i1g5)) (by rw [nr0]; exact y)).1.symm)
theorem lf_X7_restore_6 {nhh : Nat} {nww : Nat} {nkk : Nat} {fi : Nat → Option Nat} {i0 : Nat} {i0v0 : Int32} {i0v1 : Int32} {i0v2 : Int32} {i0v3 : Int32} {i0v5 : Int32} {i0h : Nat} {i0w : Nat} {i0k : Nat} {i0g1 : Nat → Int32} {i0g2 : Nat → Int32} {i0g3 : Nat → Int32} {i0g4 : Nat → Int32} {i0g5 : Nat → Int32} {i1 : Nat} {i1v0 : Int32} {i1v1 : Int32} {i1v2 : Int32} {i1v3 : Int32} {i1v5 : Int32} {i1h : Nat} {i1w : Nat} {i1k : Nat} {i1g1 : Nat → Int32} {i1g2 : Nat → Int32} {i1g3 : Nat → Int32} {i1g4 : Nat → Int32} {i1g5 : Nat → Int32} {az : Nat} {k0 : Int32} (nhb : nhh ≤ 999) (nwb : nww ≤ 6) (nkb : nkk ≤ 6) (hi0 : fi 0 = some i0) (hi1 : fi 1 = some i1) (hg0 : i0h ≤ 999) (hg1 : i0w ≤ 6) (hg2 : i0k ≤ 6) (hg3 : i1h ≤ 999) (hg4 : i1w ≤ 6) (hg5 : i1k ≤ 6) (haz : az ≤ 24) (hL0 : okLv (nrm i0v0 i0v1 i0v2 i0v3 i0h i0v5 i0w i0k i0g1 i0g2 i0g3 i0g4 i0g5)) (hL1 : okLv (nrm i1v0 i1v1 i1v2 i1v3 i1h i1v5 i1w i1k i1g1 i1g2 i1g3 i1g4 i1g5)) (c_1 : k0 < 0) : az = m_rst az (nrm i0v0 i0v1 i0v2 i0v3 i0h i0v5 i0w i0k i0g1 i0g2 i0g3 i0g4 i0g5) (nrm i1v0 i1v1 i1v2 i1v3 i1h i1v5 i1w i1k i1g1 i1g2 i1g3 i1g4 i1g5) k0 := by
  first
  | assumption
  | omega
  | (first | exact (xrs_b (Lv := (nrm i0v0 i0v1 i0v2 i0v3 i0h i0v5 i0w i0k i0g1 i0g2 i0g3 i0g4 i0g5)) (An := az) (I0 := (nrm i0v0 i0v1 i0v2 i0v3 i0h i0v5 i0w i0k i0g1 i0g2 i0g3 i0g4 i0g5)) (I1 := (nrm i1v0 i1v1 i1v2 i1v3 i1h i1v5 i1w i1k i1g1 i1g2 i1g3 i1g4 i1g5)) (Or.inl c_1)).2.1.symm | exact (xrs_b (Lv := (nrm i0v0 i0v1 i0v2 i0v3 i0h i0v5 i0w i0k i0g1 i0g2 i0g3 i0g4 i0g5)) (An := az) (I0 := (nrm i0v0 i0v1 i0v2 i0v3 i0h i0v5 i0w i0k i0g1 i0g2 i0g3 i0g4 i0g5)) (I1 := (nrm i1v0 i1v1 i1v2 i1v3 i1h i1v5 i1w i1k i1g1 i1g2 i1g3 i1g4 i1g5)) (Or.inl c_1)).2.2.symm | exact (xrs_b (Lv := (nrm nv0 nv1 nv2 nv3 nhh nv5 nww nkk ng1 ng2 ng3 ng4 ng5)) (An := az) (I0 := (nrm i0v0 i0v1 i0v2 i0v3 i0h i0v5 i0w i0k i0g1 i0g2 i0g3 i0g4 i0g5)) (I1 := (nrm i1v0 i1v1 i1v2 i1v3 i1h i1v5 i1w i1k i1g1 i1g2 i1g3 i1g4 i1g5)) (Or.inl c_1)).1.symm)
  | (have y := ((tX hL0 hg1 hg2 (by omega)).1 (by assumption)).1
     first | exact (xrs_00 (Lv := (nrm i0v0 i0v1 i0v2 i0v3 i0h i0v5 i0w i0k i0g1 i0g2 i0g3 i0g4 i0g5)) (An := az) (I0 := (nrm i0v0 i0v1 i0v2 i0v3 i0h i0v5 i0w i0k i0g1 i0g2 i0g3 i0g4 i0g5)) (I1 := (nrm i1v0 i1v1 i1v2 i1v3 i1h i1v5 i1w i1k i1g1 i1g2 i1g3 i1g4 i1g5)) (nr0.trans y)).2.1.symm | exact (xrs_00 (Lv := (nrm i0v0 i0v1 i0v2 i0v3 i0h i0v5 i0w i0k i0g1 i0g2 i0g3 i0g4 i0g5)) (An := az) (I0 := (nrm i0v0 i0v1 i0v2 i0v3 i0h i0v5 i0w i0k i0g1 i0g2 i0g3 i0g4 i0g5)) (I1 := (nrm i1v0 i1v1 i1v2 i1v3 i1h i1v5 i1w i1k i1g1 i1g2 i1g3 i1g4 i1g5)) (nr0.trans y)).2.2.symm | exact (xrs_00 (Lv := (nrm nv0 nv1 nv2 nv3 nhh nv5 nww nkk ng1 ng2 ng3 ng4 ng5)) (An := az) (I0 := (nrm i0v0 i0v1 i0v2 i0v3 i0h i0v5 i0w i0k i0g1 i0g2 i0g3 i0g4 i0g5)) (I1 := (nrm i1v0 i1v1 i1v2 i1v3 i1h i1v5 i1w i1k i1g1 i1g2 i1g3 i1g4 i1g5)) (nr0.trans y)).1.symm)
  | (have y := ((tX hL1 hg4 hg5 (by omega)).1 (by assumption)).1
     first | exact (xrs_10 (Lv := (nrm i0v0 i0v1 i0v2 i0v3 i0h i0v5 i0w i0k i0g1 i0g2 i0g3 i0g4 i0g5)) (An := az) (I0 := (nrm i0v0 i0v1 i0v2 i0v3 i0h i0v5 i0w i0k i0g1 i0g2 i0g3 i0g4 i0g5)) (I1 := (nrm i1v0 i1v1 i1v2 i1v3 i1h i1v5 i1w i1k i1g1 i1g2 i1g3 i1g4 i1g5)) (nr0.trans y)).2.1.symm | exact (xrs_10 (Lv := (nrm i0v0 i0v1 i0v2 i0v3 i0h i0v5 i0w i0k i0g1 i0g2 i0g3 i0g4 i0g5)) (An := az) (I0 := (nrm i0v0 i0v1 i0v2 i0v3 i0h i0v5 i0w i0k i0g1 i0g2 i0g3 i0g4 i0g5)) (I1 := (nrm i1v0 i1v1 i1v2 i1v3 i1h i1v5 i1w i1k i1g1 i1g2 i1g3 i1g4 i1g5)) (nr0.trans y)).2.2.symm | exact (xrs_10 (Lv := (nrm nv0 nv1 nv2 nv3 nhh nv5 nww nkk ng1 ng2 ng3 ng4 ng5)) (An := az) (I0 := (nrm i0v0 i0v1 i0v2 i0v3 i0h i0v5 i0w i0k i0g1 i0g2 i0g3 i0g4 i0g5)) (I1 := (nrm i1v0 i1v1 i1v2 i1v3 i1h i1v5 i1w i1k i1g1 i1g2 i1g3 i1g4 i1g5)) (nr0.trans y)).1.symm)
  | (have y := ((tX hL0 hg1 hg2 (by omega)).2 (by assumption)).1
     first | exact (xrs_01 (Lv := (nrm i0v0 i0v1 i0v2 i0v3 i0h i0v5 i0w i0k i0g1 i0g2 i0g3 i0g4 i0g5)) (An := az) (I0 := (nrm i0v0 i0v1 i0v2 i0v3 i0h i0v5 i0w i0k i0g1 i0g2 i0g3 i0g4 i0g5)) (I1 := (nrm i1v0 i1v1 i1v2 i1v3 i1h i1v5 i1w i1k i1g1 i1g2 i1g3 i1g4 i1g5)) (by rw [nr0]; exact y)).2.1.symm | exact (xrs_01 (Lv := (nrm i0v0 i0v1 i0v2 i0v3 i0h i0v5 i0w i0k i0g1 i0g2 i0g3 i0g4 i0g5)) (An := az) (I0 := (nrm i0v0 i0v1 i0v2 i0v3 i0h i0v5 i0w i0k i0g1 i0g2 i0g3 i0g4 i0g5)) (I1 := (nrm i1v0 i1v1 i1v2 i1v3 i1h i1v5 i1w i1k i1g1 i1g2 i1g3 i1g4 i1g5)) (by rw [nr0]; exact y)).2.2.symm | exact (nr_eq hg1 hg2 (by assumption) (by assumption) (by assumption) (by assumption) (by assumption)).trans (xrs_01 (Lv := (nrm nv0 nv1 nv2 nv3 nhh nv5 nww nkk ng1 ng2 ng3 ng4 ng5)) (An := az) (I0 := (nrm i0v0 i0v1 i0v2 i0v3 i0h i0v5 i0w i0k i0g1 i0g2 i0g3 i0g4 i0g5)) (I1 := (nrm i1v0 i1v1 i1v2 i1v3 i1h i1v5 i1w i1k i1g1 i1g2 i1g3 i1g4 i1g5)) (by rw [nr0]; exact y)).1.symm)
  | (have y := ((tX hL1 hg4 hg5 (by omega)).2 (by assumption)).1
     first | exact (xrs_11 (Lv := (nrm i0v0 i0v1 i0v2 i0v3 i0h i0v5 i0w i0k i0g1 i0g2 i0g3 i0g4 i0g5)) (An := az) (I0 := (nrm i0v0 i0v1 i0v2 i0v3 i0h i0v5 i0w i0k i0g1 i0g2 i0g3 i0g4 i0g5)) (I1 := (nrm i1v0 i1v1 i1v2 i1v3 i1h i1v5 i1w i1k i1g1 i1g2 i1g3 i1g4 i1g5)) (by rw [nr0]; exact y)).2.1.symm | exact (xrs_11 (Lv := (nrm i0v0 i0v1 i0v2 i0v3 i0h i0v5 i0w i0k i0g1 i0g2 i0g3 i0g4 i0g5)) (An := az) (I0 := (nrm i0v0 i0v1 i0v2 i0v3 i0h i0v5 i0w i0k i0g1 i0g2 i0g3 i0g4 i0g5)) (I1 := (nrm i1v0 i1v1 i1v2 i1v3 i1h i1v5 i1w i1k i1g1 i1g2 i1g3 i1g4 i1g5)) (by rw [nr0]; exact y)).2.2.symm | exact (nr_eq hg4 hg5 (by assumption) (by assumption) (by assumption) (by assumption) (by assumption)).trans (xrs_11 (Lv := (nrm nv0 nv1 nv2 nv3 nhh nv5 nww nkk ng1 ng2 ng3 ng4 ng5)) (An := az) (I0 := (nrm i0v0 i0v1 i0v2 i0v3 i0h i0v5 i0w i0k i0g1 i0g2 i0g3 i0g4 i0g5)) (I1 := (nrm i1v0 i1v1 i1v2 i1v3 i1h i1v5 i1w i1k i1g1 i1g2 i1g3 i1g4 i1g5)) (by rw [nr0]; exact y)).1.symm)
theorem lf_X7_restore_7 {nhh : Nat} {nww : Nat} {nkk : Nat} {fi : Nat → Option Nat} {i0 : Nat} {i0v0 : Int32} {i0v1 : Int32} {i0v2 : Int32} {i0v3 : Int32} {i0v5 : Int32} {i0h : Nat} {i0w : Nat} {i0k : Nat} {i0g1 : Nat → Int32} {i0g2 : Nat → Int32} {i0g3 : Nat → Int32} {i0g4 : Nat → Int32} {i0g5 : Nat → Int32} {i1 : Nat} {i1v0 : Int32} {i1v1 : Int32} {i1v2 : Int32} {i1v3 : Int32} {i1v5 : Int32} {i1h : Nat} {i1w : Nat} {i1k : Nat} {i1g1 : Nat → Int32} {i1g2 : Nat → Int32} {i1g3 : Nat → Int32} {i1g4 : Nat → Int32} {i1g5 : Nat → Int32} {az : Nat} {k0 : Int32} (nhb : nhh ≤ 999) (nwb : nww ≤ 6) (nkb : nkk ≤ 6) (hi0 : fi 0 = some i0) (hi1 : fi 1 = some i1) (hg0 : i0h ≤ 999) (hg1 : i0w ≤ 6) (hg2 : i0k ≤ 6) (hg3 : i1h ≤ 999) (hg4 : i1w ≤ 6) (hg5 : i1k ≤ 6) (haz : az ≤ 24) (hL0 : okLv (nrm i0v0 i0v1 i0v2 i0v3 i0h i0v5 i0w i0k i0g1 i0g2 i0g3 i0g4 i0g5)) (hL1 : okLv (nrm i1v0 i1v1 i1v2 i1v3 i1h i1v5 i1w i1k i1g1 i1g2 i1g3 i1g4 i1g5)) (c_1 : k0 < 0) : (-1000001) = (a_rst (nrm i0v0 i0v1 i0v2 i0v3 i0h i0v5 i0w i0k i0g1 i0g2 i0g3 i0g4 i0g5) (nrm i1v0 i1v1 i1v2 i1v3 i1h i1v5 i1w i1k i1g1 i1g2 i1g3 i1g4 i1g5) k0) := by
  first
  | assumption
  | omega
  | (first | exact (xrs_b (Lv := (nrm i0v0 i0v1 i0v2 i0v3 i0h i0v5 i0w i0k i0g1 i0g2 i0g3 i0g4 i0g5)) (An := az) (I0 := (nrm i0v0 i0v1 i0v2 i0v3 i0h i0v5 i0w i0k i0g1 i0g2 i0g3 i0g4 i0g5)) (I1 := (nrm i1v0 i1v1 i1v2 i1v3 i1h i1v5 i1w i1k i1g1 i1g2 i1g3 i1g4 i1g5)) (Or.inl c_1)).2.1.symm | exact (xrs_b (Lv := (nrm i0v0 i0v1 i0v2 i0v3 i0h i0v5 i0w i0k i0g1 i0g2 i0g3 i0g4 i0g5)) (An := az) (I0 := (nrm i0v0 i0v1 i0v2 i0v3 i0h i0v5 i0w i0k i0g1 i0g2 i0g3 i0g4 i0g5)) (I1 := (nrm i1v0 i1v1 i1v2 i1v3 i1h i1v5 i1w i1k i1g1 i1g2 i1g3 i1g4 i1g5)) (Or.inl c_1)).2.2.symm | exact (xrs_b (Lv := (nrm nv0 nv1 nv2 nv3 nhh nv5 nww nkk ng1 ng2 ng3 ng4 ng5)) (An := az) (I0 := (nrm i0v0 i0v1 i0v2 i0v3 i0h i0v5 i0w i0k i0g1 i0g2 i0g3 i0g4 i0g5)) (I1 := (nrm i1v0 i1v1 i1v2 i1v3 i1h i1v5 i1w i1k i1g1 i1g2 i1g3 i1g4 i1g5)) (Or.inl c_1)).1.symm)
  | (have y := ((tX hL0 hg1 hg2 (by omega)).1 (by assumption)).1
     first | exact (xrs_00 (Lv := (nrm i0v0 i0v1 i0v2 i0v3 i0h i0v5 i0w i0k i0g1 i0g2 i0g3 i0g4 i0g5)) (An := az) (I0 := (nrm i0v0 i0v1 i0v2 i0v3 i0h i0v5 i0w i0k i0g1 i0g2 i0g3 i0g4 i0g5)) (I1 := (nrm i1v0 i1v1 i1v2 i1v3 i1h i1v5 i1w i1k i1g1 i1g2 i1g3 i1g4 i1g5)) (nr0.trans y)).2.1.symm | exact (xrs_00 (Lv := (nrm i0v0 i0v1 i0v2 i0v3 i0h i0v5 i0w i0k i0g1 i0g2 i0g3 i0g4 i0g5)) (An := az) (I0 := (nrm i0v0 i0v1 i0v2 i0v3 i0h i0v5 i0w i0k i0g1 i0g2 i0g3 i0g4 i0g5)) (I1 := (nrm i1v0 i1v1 i1v2 i1v3 i1h i1v5 i1w i1k i1g1 i1g2 i1g3 i1g4 i1g5)) (nr0.trans y)).2.2.symm | exact (xrs_00 (Lv := (nrm nv0 nv1 nv2 nv3 nhh nv5 nww nkk ng1 ng2 ng3 ng4 ng5)) (An := az) (I0 := (nrm i0v0 i0v1 i0v2 i0v3 i0h i0v5 i0w i0k i0g1 i0g2 i0g3 i0g4 i0g5)) (I1 := (nrm i1v0 i1v1 i1v2 i1v3 i1h i1v5 i1w i1k i1g1 i1g2 i1g3 i1g4 i1g5)) (nr0.trans y)).1.symm)
  | (have y := ((tX hL1 hg4 hg5 (by omega)).1 (by assumption)).1
     first | exact (xrs_10 (Lv := (nrm i0v0 i0v1 i0v2 i0v3 i0h i0v5 i0w i0k i0g1 i0g2 i0g3 i0g4 i0g5)) (An := az) (I0 := (nrm i0v0 i0v1 i0v2 i0v3 i0h i0v5 i0w i0k i0g1 i0g2 i0g3 i0g4 i0g5)) (I1 := (nrm i1v0 i1v1 i1v2 i1v3 i1h i1v5 i1w i1k i1g1 i1g2 i1g3 i1g4 i1g5)) (nr0.trans y)).2.1.symm | exact (xrs_10 (Lv := (nrm i0v0 i0v1 i0v2 i0v3 i0h i0v5 i0w i0k i0g1 i0g2 i0g3 i0g4 i0g5)) (An := az) (I0 := (nrm i0v0 i0v1 i0v2 i0v3 i0h i0v5 i0w i0k i0g1 i0g2 i0g3 i0g4 i0g5)) (I1 := (nrm i1v0 i1v1 i1v2 i1v3 i1h i1v5 i1w i1k i1g1 i1g2 i1g3 i1g4 i1g5)) (nr0.trans y)).2.2.symm | exact (xrs_10 (Lv := (nrm nv0 nv1 nv2 nv3 nhh nv5 nww nkk ng1 ng2 ng3 ng4 ng5)) (An := az) (I0 := (nrm i0v0 i0v1 i0v2 i0v3 i0h i0v5 i0w i0k i0g1 i0g2 i0g3 i0g4 i0g5)) (I1 := (nrm i1v0 i1v1 i1v2 i1v3 i1h i1v5 i1w i1k i1g1 i1g2 i1g3 i1g4 i1g5)) (nr0.trans y)).1.symm)
  | (have y := ((tX hL0 hg1 hg2 (by omega)).2 (by assumption)).1
     first | exact (xrs_01 (Lv := (nrm i0v0 i0v1 i0v2 i0v3 i0h i0v5 i0w i0k i0g1 i0g2 i0g3 i0g4 i0g5)) (An := az) (I0 := (nrm i0v0 i0v1 i0v2 i0v3 i0h i0v5 i0w i0k i0g1 i0g2 i0g3 i0g4 i0g5)) (I1 := (nrm i1v0 i1v1 i1v2 i1v3 i1h i1v5 i1w i1k i1g1 i1g2 i1g3 i1g4 i1g5)) (by rw [nr0]; exact y)).2.1.symm | exact (xrs_01 (Lv := (nrm i0v0 i0v1 i0v2 i0v3 i0h i0v5 i0w i0k i0g1 i0g2 i0g3 i0g4 i0g5)) (An := az) (I0 := (nrm i0v0 i0v1 i0v2 i0v3 i0h i0v5 i0w i0k i0g1 i0g2 i0g3 i0g4 i0g5)) (I1 := (nrm i1v0 i1v1 i1v2 i1v3 i1h i1v5 i1w i1k i1g1 i1g2 i1g3 i1g4 i1g5)) (by rw [nr0]; exact y)).2.2.symm | exact (nr_eq hg1 hg2 (by assumption) (by assumption) (by assumption) (by assumption) (by assumption)).trans (xrs_01 (Lv := (nrm nv0 nv1 nv2 nv3 nhh nv5 nww nkk ng1 ng2 ng3 ng4 ng5)) (An := az) (I0 := (nrm i0v0 i0v1 i0v2 i0v3 i0h i0v5 i0w i0k i0g1 i0g2 i0g3 i0g4 i0g5)) (I1 := (nrm i1v0 i1v1 i1v2 i1v3 i1h i1v5 i1w i1k i1g1 i1g2 i1g3 i1g4 i1g5)) (by rw [nr0]; exact y)).1.symm)
  | (have y := ((tX hL1 hg4 hg5 (by omega)).2 (by assumption)).1
     first | exact (xrs_11 (Lv := (nrm i0v0 i0v1 i0v2 i0v3 i0h i0v5 i0w i0k i0g1 i0g2 i0g3 i0g4 i0g5)) (An := az) (I0 := (nrm i0v0 i0v1 i0v2 i0v3 i0h i0v5 i0w i0k i0g1 i0g2 i0g3 i0g4 i0g5)) (I1 := (nrm i1v0 i1v1 i1v2 i1v3 i1h i1v5 i1w i1k i1g1 i1g2 i1g3 i1g4 i1g5)) (by rw [nr0]; exact y)).2.1.symm | exact (xrs_11 (Lv := (nrm i0v0 i0v1 i0v2 i0v3 i0h i0v5 i0w i0k i0g1 i0g2 i0g3 i0g4 i0g5)) (An := az) (I0 := (nrm i0v0 i0v1 i0v2 i0v3 i0h i0v5 i0w i0k i0g1 i0g2 i0g3 i0g4 i0g5)) (I1 := (nrm i1v0 i1v1 i1v2 i1v3 i1h i1v5 i1w i1k i1g1 i1g2 i1g3 i1g4 i1g5)) (by rw [nr0]; exact y)).2.2.symm | exact (nr_eq hg4 hg5 (by assumption) (by assumption) (by assumption) (by assumption) (by assumption)).trans (xrs_11 (Lv := (nrm nv0 nv1 nv2 nv3 nhh nv5 nww nkk ng1 ng2 ng3 ng4 ng5)) (An := az) (I0 := (nrm i0v0 i0v1 i0v2 i0v3 i0h i0v5 i0w i0k i0g1 i0g2 i0g3 i0g4 i0g5)) (I1 := (nrm i1v0 i1v1 i1v2 i1v3 i1h i1v5 i1w i1k i1g1 i1g2 i1g3 i1g4 i1g5)) (by rw [nr0]; exact y)).1.symm)
theorem lf_X7_restore_8 {nhh : Nat} {nww : Nat} {nkk : Nat} {fi : Nat → Option Nat} {i0 : Nat} {i0v0 : Int32} {i0v1 : Int32} {i0v2 : Int32} {i0v3 : Int32} {i0v5 : Int32} {i0h : Nat} {i0w : Nat} {i0k : Nat} {i0g1 : Nat → Int32} {i0g2 : Nat → Int32} {i0g3 : Nat → Int32} {i0g4 : Nat → Int32} {i0g5 : Nat → Int32} {i1 : Nat} {i1v0 : Int32} {i1v1 : Int32} {i1v2 : Int32} {i1v3 : Int32} {i1v5 : Int32} {i1h : Nat} {i1w : Nat} {i1k : Nat} {i1g1 : Nat → Int32} {i1g2 : Nat → Int32} {i1g3 : Nat → Int32} {i1g4 : Nat → Int32} {i1g5 : Nat → Int32} {az : Nat} (nhb : nhh ≤ 999) (nwb : nww ≤ 6) (nkb : nkk ≤ 6) (hi0 : fi 0 = some i0) (hi1 : fi 1 = some i1) (hg0 : i0h ≤ 999) (hg1 : i0w ≤ 6) (hg2 : i0k ≤ 6) (hg3 : i1h ≤ 999) (hg4 : i1w ≤ 6) (hg5 : i1k ≤ 6) (haz : az ≤ 24) (hL0 : okLv (nrm i0v0 i0v1 i0v2 i0v3 i0h i0v5 i0w i0k i0g1 i0g2 i0g3 i0g4 i0g5)) (hL1 : okLv (nrm i1v0 i1v1 i1v2 i1v3 i1h i1v5 i1w i1k i1g1 i1g2 i1g3 i1g4 i1g5)) (c_1 : ¬ ((0 : Int32) < 0)) (c_2 : (0 : Int32) < 2) (f_3_0_0 : ¬ 0 < i0v0) : nhh ≤ 999 := by
  first
  | assumption
  | omega
  | (first | exact (xrs_b (Lv := (nrm i0v0 i0v1 i0v2 i0v3 i0h i0v5 i0w i0k i0g1 i0g2 i0g3 i0g4 i0g5)) (An := az) (I0 := (nrm i0v0 i0v1 i0v2 i0v3 i0h i0v5 i0w i0k i0g1 i0g2 i0g3 i0g4 i0g5)) (I1 := (nrm i1v0 i1v1 i1v2 i1v3 i1h i1v5 i1w i1k i1g1 i1g2 i1g3 i1g4 i1g5)) (Or.inl c_1)).2.1.symm | exact (xrs_b (Lv := (nrm i0v0 i0v1 i0v2 i0v3 i0h i0v5 i0w i0k i0g1 i0g2 i0g3 i0g4 i0g5)) (An := az) (I0 := (nrm i0v0 i0v1 i0v2 i0v3 i0h i0v5 i0w i0k i0g1 i0g2 i0g3 i0g4 i0g5)) (I1 := (nrm i1v0 i1v1 i1v2 i1v3 i1h i1v5 i1w i1k i1g1 i1g2 i1g3 i1g4 i1g5)) (Or.inl c_1)).2.2.symm | exact (xrs_b (Lv := (nrm nv0 nv1 nv2 nv3 nhh nv5 nww nkk ng1 ng2 ng3 ng4 ng5)) (An := az) (I0 := (nrm i0v0 i0v1 i0v2 i0v3 i0h i0v5 i0w i0k i0g1 i0g2 i0g3 i0g4 i0g5)) (I1 := (nrm i1v0 i1v1 i1v2 i1v3 i1h i1v5 i1w i1k i1g1 i1g2 i1g3 i1g4 i1g5)) (Or.inl c_1)).1.symm)
  | (first | exact (xrs_b (Lv := (nrm i0v0 i0v1 i0v2 i0v3 i0h i0v5 i0w i0k i0g1 i0g2 i0g3 i0g4 i0g5)) (An := az) (I0 := (nrm i0v0 i0v1 i0v2 i0v3 i0h i0v5 i0w i0k i0g1 i0g2 i0g3 i0g4 i0g5)) (I1 := (nrm i1v0 i1v1 i1v2 i1v3 i1h i1v5 i1w i1k i1g1 i1g2 i1g3 i1g4 i1g5)) (Or.inr c_2)).2.1.symm | exact (xrs_b (Lv := (nrm i0v0 i0v1 i0v2 i0v3 i0h i0v5 i0w i0k i0g1 i0g2 i0g3 i0g4 i0g5)) (An := az) (I0 := (nrm i0v0 i0v1 i0v2 i0v3 i0h i0v5 i0w i0k i0g1 i0g2 i0g3 i0g4 i0g5)) (I1 := (nrm i1v0 i1v1 i1v2 i1v3 i1h i1v5 i1w i1k i1g1 i1g2 i1g3 i1g4 i1g5)) (Or.inr c_2)).2.2.symm | exact (xrs_b (Lv := (nrm nv0 nv1 nv2 nv3 nhh nv5 nww nkk ng1 ng2 ng3 ng4 ng5)) (An := az) (I0 := (nrm i0v0 i0v1 i0v2 i0v3 i0h i0v5 i0w i0k i0g1 i0g2 i0g3 i0g4 i0g5)) (I1 := (nrm i1v0 i1v1 i1v2 i1v3 i1h i1v5 i1w i1k i1g1 i1g2 i1g3 i1g4 i1g5)) (Or.inr c_2)).1.symm)
  | (have y := ((tX hL0 hg1 hg2 (by omega)).1 (by assumption)).1
     first | exact (xrs_00 (Lv := (nrm i0v0 i0v1 i0v2 i0v3 i0h i0v5 i0w i0k i0g1 i0g2 i0g3 i0g4 i0g5)) (An := az) (I0 := (nrm i0v0 i0v1 i0v2 i0v3 i0h i0v5 i0w i0k i0g1 i0g2 i0g3 i0g4 i0g5)) (I1 := (nrm i1v0 i1v1 i1v2 i1v3 i1h i1v5 i1w i1k i1g1 i1g2 i1g3 i1g4 i1g5)) (nr0.trans y)).2.1.symm | exact (xrs_00 (Lv := (nrm i0v0 i0v1 i0v2 i0v3 i0h i0v5 i0w i0k i0g1 i0g2 i0g3 i0g4 i0g5)) (An := az) (I0 := (nrm i0v0 i0v1 i0v2 i0v3 i0h i0v5 i0w i0k i0g1 i0g2 i0g3 i0g4 i0g5)) (I1 := (nrm i1v0 i1v1 i1v2 i1v3 i1h i1v5 i1w i1k i1g1 i1g2 i1g3 i1g4 i1g5)) (nr0.trans y)).2.2.symm | exact (xrs_00 (Lv := (nrm nv0 nv1 nv2 nv3 nhh nv5 nww nkk ng1 ng2 ng3 ng4 ng5)) (An := az) (I0 := (nrm i0v0 i0v1 i0v2 i0v3 i0h i0v5 i0w i0k i0g1 i0g2 i0g3 i0g4 i0g5)) (I1 := (nrm i1v0 i1v1 i1v2 i1v3 i1h i1v5 i1w i1k i1g1 i1g2 i1g3 i1g4 i1g5)) (nr0.trans y)).1.symm)
  | (have y := ((tX hL1 hg4 hg5 (by omega)).1 (by assumption)).1
     first | exact (xrs_10 (Lv := (nrm i0v0 i0v1 i0v2 i0v3 i0h i0v5 i0w i0k i0g1 i0g2 i0g3 i0g4 i0g5)) (An := az) (I0 := (nrm i0v0 i0v1 i0v2 i0v3 i0h i0v5 i0w i0k i0g1 i0g2 i0g3 i0g4 i0g5)) (I1 := (nrm i1v0 i1v1 i1v2 i1v3 i1h i1v5 i1w i1k i1g1 i1g2 i1g3 i1g4 i1g5)) (nr0.trans y)).2.1.symm | exact (xrs_10 (Lv := (nrm i0v0 i0v1 i0v2 i0v3 i0h i0v5 i0w i0k i0g1 i0g2 i0g3 i0g4 i0g5)) (An := az) (I0 := (nrm i0v0 i0v1 i0v2 i0v3 i0h i0v5 i0w i0k i0g1 i0g2 i0g3 i0g4 i0g5)) (I1 := (nrm i1v0 i1v1 i1v2 i1v3 i1h i1v5 i1w i1k i1g1 i1g2 i1g3 i1g4 i1g5)) (nr0.trans y)).2.2.symm | exact (xrs_10 (Lv := (nrm nv0 nv1 nv2 nv3 nhh nv5 nww nkk ng1 ng2 ng3 ng4 ng5)) (An := az) (I0 := (nrm i0v0 i0v1 i0v2 i0v3 i0h i0v5 i0w i0k i0g1 i0g2 i0g3 i0g4 i0g5)) (I1 := (nrm i1v0 i1v1 i1v2 i1v3 i1h i1v5 i1w i1k i1g1 i1g2 i1g3 i1g4 i1g5)) (nr0.trans y)).1.symm)
  | (have y := ((tX hL0 hg1 hg2 (by omega)).2 (by assumption)).1
     first | exact (xrs_01 (Lv := (nrm i0v0 i0v1 i0v2 i0v3 i0h i0v5 i0w i0k i0g1 i0g2 i0g3 i0g4 i0g5)) (An := az) (I0 := (nrm i0v0 i0v1 i0v2 i0v3 i0h i0v5 i0w i0k i0g1 i0g2 i0g3 i0g4 i0g5)) (I1 := (nrm i1v0 i1v1 i1v2 i1v3 i1h i1v5 i1w i1k i1g1 i1g2 i1g3 i1g4 i1g5)) (by rw [nr0]; exact y)).2.1.symm | exact (xrs_01 (Lv := (nrm i0v0 i0v1 i0v2 i0v3 i0h i0v5 i0w i0k i0g1 i0g2 i0g3 i0g4 i0g5)) (An := az) (I0 := (nrm i0v0 i0v1 i0v2 i0v3 i0h i0v5 i0w i0k i0g1 i0g2 i0g3 i0g4 i0g5)) (I1 := (nrm i1v0 i1v1 i1v2 i1v3 i1h i1v5 i1w i1k i1g1 i1g2 i1g3 i1g4 i1g5)) (by rw [nr0]; exact y)).2.2.symm | exact (nr_eq hg1 hg2 (by assumption) (by assumption) (by assumption) (by assumption) (by assumption)).trans (xrs_01 (Lv := (nrm nv0 nv1 nv2 nv3 nhh nv5 nww nkk ng1 ng2 ng3 ng4 ng5)) (An := az) (I0 := (nrm i0v0 i0v1 i0v2 i0v3 i0h i0v5 i0w i0k i0g1 i0g2 i0g3 i0g4 i0g5)) (I1 := (nrm i1v0 i1v1 i1v2 i1v3 i1h i1v5 i1w i1k i1g1 i1g2 i1g3 i1g4 i1g5)) (by rw [nr0]; exact y)).1.symm)
  | (have y := ((tX hL1 hg4 hg5 (by omega)).2 (by assumption)).1
     first | exact (xrs_11 (Lv := (nrm i0v0 i0v1 i0v2 i0v3 i0h i0v5 i0w i0k i0g1 i0g2 i0g3 i0g4 i0g5)) (An := az) (I0 := (nrm i0v0 i0v1 i0v2 i0v3 i0h i0v5 i0w i0k i0g1 i0g2 i0g3 i0g4 i0g5)) (I1 := (nrm i1v0 i1v1 i1v2 i1v3 i1h i1v5 i1w i1k i1g1 i1g2 i1g3 i1g4 i1g5)) (by rw [nr0]; exact y)).2.1.symm | exact (xrs_11 (Lv := (nrm i0v0 i0v1 i0v2 i0v3 i0h i0v5 i0w i0k i0g1 i0g2 i0g3 i0g4 i0g5)) (An := az) (I0 := (nrm i0v0 i0v1 i0v2 i0v3 i0h i0v5 i0w i0k i0g1 i0g2 i0g3 i0g4 i0g5)) (I1 := (nrm i1v0 i1v1 i1v2 i1v3 i1h i1v5 i1w i1k i1g1 i1g2 i1g3 i1g4 i1g5)) (by rw [nr0]; exact y)).2.2.symm | exact (nr_eq hg4 hg5 (by assumption) (by assumption) (by assumption) (by assumption) (by assumption)).trans (xrs_11 (Lv := (nrm nv0 nv1 nv2 nv3 nhh nv5 nww nkk ng1 ng2 ng3 ng4 ng5)) (An := az) (I0 := (nrm i0v0 i0v1 i0v2 i0v3 i0h i0v5 i0w i0k i0g1 i0g2 i0g3 i0g4 i0g5)) (I1 := (nrm i1v0 i1v1 i1v2 i1v3 i1h i1v5 i1w i1k i1g1 i1g2 i1g3 i1g4 i1g5)) (by rw [nr0]; exact y)).1.symm)
theorem lf_X7_restore_9 {nhh : Nat} {nww : Nat} {nkk : Nat} {fi : Nat → Option Nat} {i0 : Nat} {i0v0 : Int32} {i0v1 : Int32} {i0v2 : Int32} {i0v3 : Int32} {i0v5 : Int32} {i0h : Nat} {i0w : Nat} {i0k : Nat} {i0g1 : Nat → Int32} {i0g2 : Nat → Int32} {i0g3 : Nat → Int32} {i0g4 : Nat → Int32} {i0g5 : Nat → Int32} {i1 : Nat} {i1v0 : Int32} {i1v1 : Int32} {i1v2 : Int32} {i1v3 : Int32} {i1v5 : Int32} {i1h : Nat} {i1w : Nat} {i1k : Nat} {i1g1 : Nat → Int32} {i1g2 : Nat → Int32} {i1g3 : Nat → Int32} {i1g4 : Nat → Int32} {i1g5 : Nat → Int32} {az : Nat} (nhb : nhh ≤ 999) (nwb : nww ≤ 6) (nkb : nkk ≤ 6) (hi0 : fi 0 = some i0) (hi1 : fi 1 = some i1) (hg0 : i0h ≤ 999) (hg1 : i0w ≤ 6) (hg2 : i0k ≤ 6) (hg3 : i1h ≤ 999) (hg4 : i1w ≤ 6) (hg5 : i1k ≤ 6) (haz : az ≤ 24) (hL0 : okLv (nrm i0v0 i0v1 i0v2 i0v3 i0h i0v5 i0w i0k i0g1 i0g2 i0g3 i0g4 i0g5)) (hL1 : okLv (nrm i1v0 i1v1 i1v2 i1v3 i1h i1v5 i1w i1k i1g1 i1g2 i1g3 i1g4 i1g5)) (c_1 : ¬ ((0 : Int32) < 0)) (c_2 : (0 : Int32) < 2) (f_3_0_0 : ¬ 0 < i0v0) : nww ≤ 6 := by
  first
  | assumption
  | omega
  | (first | exact (xrs_b (Lv := (nrm i0v0 i0v1 i0v2 i0v3 i0h i0v5 i0w i0k i0g1 i0g2 i0g3 i0g4 i0g5)) (An := az) (I0 := (nrm i0v0 i0v1 i0v2 i0v3 i0h i0v5 i0w i0k i0g1 i0g2 i0g3 i0g4 i0g5)) (I1 := (nrm i1v0 i1v1 i1v2 i1v3 i1h i1v5 i1w i1k i1g1 i1g2 i1g3 i1g4 i1g5)) (Or.inl c_1)).2.1.symm | exact (xrs_b (Lv := (nrm i0v0 i0v1 i0v2 i0v3 i0h i0v5 i0w i0k i0g1 i0g2 i0g3 i0g4 i0g5)) (An := az) (I0 := (nrm i0v0 i0v1 i0v2 i0v3 i0h i0v5 i0w i0k i0g1 i0g2 i0g3 i0g4 i0g5)) (I1 := (nrm i1v0 i1v1 i1v2 i1v3 i1h i1v5 i1w i1k i1g1 i1g2 i1g3 i1g4 i1g5)) (Or.inl c_1)).2.2.symm | exact (xrs_b (Lv := (nrm nv0 nv1 nv2 nv3 nhh nv5 nww nkk ng1 ng2 ng3 ng4 ng5)) (An := az) (I0 := (nrm i0v0 i0v1 i0v2 i0v3 i0h i0v5 i0w i0k i0g1 i0g2 i0g3 i0g4 i0g5)) (I1 := (nrm i1v0 i1v1 i1v2 i1v3 i1h i1v5 i1w i1k i1g1 i1g2 i1g3 i1g4 i1g5)) (Or.inl c_1)).1.symm)
  | (first | exact (xrs_b (Lv := (nrm i0v0 i0v1 i0v2 i0v3 i0h i0v5 i0w i0k i0g1 i0g2 i0g3 i0g4 i0g5)) (An := az) (I0 := (nrm i0v0 i0v1 i0v2 i0v3 i0h i0v5 i0w i0k i0g1 i0g2 i0g3 i0g4 i0g5)) (I1 := (nrm i1v0 i1v1 i1v2 i1v3 i1h i1v5 i1w i1k i1g1 i1g2 i1g3 i1g4 i1g5)) (Or.inr c_2)).2.1.symm | exact (xrs_b (Lv := (nrm i0v0 i0v1 i0v2 i0v3 i0h i0v5 i0w i0k i0g1 i0g2 i0g3 i0g4 i0g5)) (An := az) (I0 := (nrm i0v0 i0v1 i0v2 i0v3 i0h i0v5 i0w i0k i0g1 i0g2 i0g3 i0g4 i0g5)) (I1 := (nrm i1v0 i1v1 i1v2 i1v3 i1h i1v5 i1w i1k i1g1 i1g2 i1g3 i1g4 i1g5)) (Or.inr c_2)).2.2.symm | exact (xrs_b (Lv := (nrm nv0 nv1 nv2 nv3 nhh nv5 nww nkk ng1 ng2 ng3 ng4 ng5)) (An := az) (I0 := (nrm i0v0 i0v1 i0v2 i0v3 i0h i0v5 i0w i0k i0g1 i0g2 i0g3 i0g4 i0g5)) (I1 := (nrm i1v0 i1v1 i1v2 i1v3 i1h i1v5 i1w i1k i1g1 i1g2 i1g3 i1g4 i1g5)) (Or.inr c_2)).1.symm)
  | (have y := ((tX hL0 hg1 hg2 (by omega)).1 (by assumption)).1
     first | exact (xrs_00 (Lv := (nrm i0v0 i0v1 i0v2 i0v3 i0h i0v5 i0w i0k i0g1 i0g2 i0g3 i0g4 i0g5)) (An := az) (I0 := (nrm i0v0 i0v1 i0v2 i0v3 i0h i0v5 i0w i0k i0g1 i0g2 i0g3 i0g4 i0g5)) (I1 := (nrm i1v0 i1v1 i1v2 i1v3 i1h i1v5 i1w i1k i1g1 i1g2 i1g3 i1g4 i1g5)) (nr0.trans y)).2.1.symm | exact (xrs_00 (Lv := (nrm i0v0 i0v1 i0v2 i0v3 i0h i0v5 i0w i0k i0g1 i0g2 i0g3 i0g4 i0g5)) (An := az) (I0 := (nrm i0v0 i0v1 i0v2 i0v3 i0h i0v5 i0w i0k i0g1 i0g2 i0g3 i0g4 i0g5)) (I1 := (nrm i1v0 i1v1 i1v2 i1v3 i1h i1v5 i1w i1k i1g1 i1g2 i1g3 i1g4 i1g5)) (nr0.trans y)).2.2.symm | exact (xrs_00 (Lv := (nrm nv0 nv1 nv2 nv3 nhh nv5 nww nkk ng1 ng2 ng3 ng4 ng5)) (An := az) (I0 := (nrm i0v0 i0v1 i0v2 i0v3 i0h i0v5 i0w i0k i0g1 i0g2 i0g3 i0g4 i0g5)) (I1 := (nrm i1v0 i1v1 i1v2 i1v3 i1h i1v5 i1w i1k i1g1 i1g2 i1g3 i1g4 i1g5)) (nr0.trans y)).1.symm)
  | (have y := ((tX hL1 hg4 hg5 (by omega)).1 (by assumption)).1
     first | exact (xrs_10 (Lv := (nrm i0v0 i0v1 i0v2 i0v3 i0h i0v5 i0w i0k i0g1 i0g2 i0g3 i0g4 i0g5)) (An := az) (I0 := (nrm i0v0 i0v1 i0v2 i0v3 i0h i0v5 i0w i0k i0g1 i0g2 i0g3 i0g4 i0g5)) (I1 := (nrm i1v0 i1v1 i1v2 i1v3 i1h i1v5 i1w i1k i1g1 i1g2 i1g3 i1g4 i1g5)) (nr0.trans y)).2.1.symm | exact (xrs_10 (Lv := (nrm i0v0 i0v1 i0v2 i0v3 i0h i0v5 i0w i0k i0g1 i0g2 i0g3 i0g4 i0g5)) (An := az) (I0 := (nrm i0v0 i0v1 i0v2 i0v3 i0h i0v5 i0w i0k i0g1 i0g2 i0g3 i0g4 i0g5)) (I1 := (nrm i1v0 i1v1 i1v2 i1v3 i1h i1v5 i1w i1k i1g1 i1g2 i1g3 i1g4 i1g5)) (nr0.trans y)).2.2.symm | exact (xrs_10 (Lv := (nrm nv0 nv1 nv2 nv3 nhh nv5 nww nkk ng1 ng2 ng3 ng4 ng5)) (An := az) (I0 := (nrm i0v0 i0v1 i0v2 i0v3 i0h i0v5 i0w i0k i0g1 i0g2 i0g3 i0g4 i0g5)) (I1 := (nrm i1v0 i1v1 i1v2 i1v3 i1h i1v5 i1w i1k i1g1 i1g2 i1g3 i1g4 i1g5)) (nr0.trans y)).1.symm)
  | (have y := ((tX hL0 hg1 hg2 (by omega)).2 (by assumption)).1
     first | exact (xrs_01 (Lv := (nrm i0v0 i0v1 i0v2 i0v3 i0h i0v5 i0w i0k i0g1 i0g2 i0g3 i0g4 i0g5)) (An := az) (I0 := (nrm i0v0 i0v1 i0v2 i0v3 i0h i0v5 i0w i0k i0g1 i0g2 i0g3 i0g4 i0g5)) (I1 := (nrm i1v0 i1v1 i1v2 i1v3 i1h i1v5 i1w i1k i1g1 i1g2 i1g3 i1g4 i1g5)) (by rw [nr0]; exact y)).2.1.symm | exact (xrs_01 (Lv := (nrm i0v0 i0v1 i0v2 i0v3 i0h i0v5 i0w i0k i0g1 i0g2 i0g3 i0g4 i0g5)) (An := az) (I0 := (nrm i0v0 i0v1 i0v2 i0v3 i0h i0v5 i0w i0k i0g1 i0g2 i0g3 i0g4 i0g5)) (I1 := (nrm i1v0 i1v1 i1v2 i1v3 i1h i1v5 i1w i1k i1g1 i1g2 i1g3 i1g4 i1g5)) (by rw [nr0]; exact y)).2.2.symm | exact (nr_eq hg1 hg2 (by assumption) (by assumption) (by assumption) (by assumption) (by assumption)).trans (xrs_01 (Lv := (nrm nv0 nv1 nv2 nv3 nhh nv5 nww nkk ng1 ng2 ng3 ng4 ng5)) (An := az) (I0 := (nrm i0v0 i0v1 i0v2 i0v3 i0h i0v5 i0w i0k i0g1 i0g2 i0g3 i0g4 i0g5)) (I1 := (nrm i1v0 i1v1 i1v2 i1v3 i1h i1v5 i1w i1k i1g1 i1g2 i1g3 i1g4 i1g5)) (by rw [nr0]; exact y)).1.symm)
  | (have y := ((tX hL1 hg4 hg5 (by omega)).2 (by assumption)).1
     first | exact (xrs_11 (Lv := (nrm i0v0 i0v1 i0v2 i0v3 i0h i0v5 i0w i0k i0g1 i0g2 i0g3 i0g4 i0g5)) (An := az) (I0 := (nrm i0v0 i0v1 i0v2 i0v3 i0h i0v5 i0w i0k i0g1 i0g2 i0g3 i0g4 i0g5)) (I1 := (nrm i1v0 i1v1 i1v2 i1v3 i1h i1v5 i1w i1k i1g1 i1g2 i1g3 i1g4 i1g5)) (by rw [nr0]; exact y)).2.1.symm | exact (xrs_11 (Lv := (nrm i0v0 i0v1 i0v2 i0v3 i0h i0v5 i0w i0k i0g1 i0g2 i0g3 i0g4 i0g5)) (An := az) (I0 := (nrm i0v0 i0v1 i0v2 i0v3 i0h i0v5 i0w i0k i0g1 i0g2 i0g3 i0g4 i0g5)) (I1 := (nrm i1v0 i1v1 i1v2 i1v3 i1h i1v5 i1w i1k i1g1 i1g2 i1g3 i1g4 i1g5)) (by rw [nr0]; exact y)).2.2.symm | exact (nr_eq hg4 hg5 (by assumption) (by assumption) (by assumption) (by assumption) (by assumption)).trans (xrs_11 (Lv := (nrm nv0 nv1 nv2 nv3 nhh nv5 nww nkk ng1 ng2 ng3 ng4 ng5)) (An := az) (I0 := (nrm i0v0 i0v1 i0v2 i0v3 i0h i0v5 i0w i0k i0g1 i0g2 i0g3 i0g4 i0g5)) (I1 := (nrm i1v0 i1v1 i1v2 i1v3 i1h i1v5 i1w i1k i1g1 i1g2 i1g3 i1g4 i1g5)) (by rw [nr0]; exact y)).1.symm)
theorem lf_X7_restore_10 {nhh : Nat} {nww : Nat} {nkk : Nat} {fi : Nat → Option Nat} {i0 : Nat} {i0v0 : Int32} {i0v1 : Int32} {i0v2 : Int32} {i0v3 : Int32} {i0v5 : Int32} {i0h : Nat} {i0w : Nat} {i0k : Nat} {i0g1 : Nat → Int32} {i0g2 : Nat → Int32} {i0g3 : Nat → Int32} {i0g4 : Nat → Int32} {i0g5 : Nat → Int32} {i1 : Nat} {i1v0 : Int32} {i1v1 : Int32} {i1v2 : Int32} {i1v3 : Int32} {i1v5 : Int32} {i1h : Nat} {i1w : Nat} {i1k : Nat} {i1g1 : Nat → Int32} {i1g2 : Nat → Int32} {i1g3 : Nat → Int32} {i1g4 : Nat → Int32} {i1g5 : Nat → Int32} {az : Nat} (nhb : nhh ≤ 999) (nwb : nww ≤ 6) (nkb : nkk ≤ 6) (hi0 : fi 0 = some i0) (hi1 : fi 1 = some i1) (hg0 : i0h ≤ 999) (hg1 : i0w ≤ 6) (hg2 : i0k ≤ 6) (hg3 : i1h ≤ 999) (hg4 : i1w ≤ 6) (hg5 : i1k ≤ 6) (haz : az ≤ 24) (hL0 : okLv (nrm i0v0 i0v1 i0v2 i0v3 i0h i0v5 i0w i0k i0g1 i0g2 i0g3 i0g4 i0g5)) (hL1 : okLv (nrm i1v0 i1v1 i1v2 i1v3 i1h i1v5 i1w i1k i1g1 i1g2 i1g3 i1g4 i1g5)) (c_1 : ¬ ((0 : Int32) < 0)) (c_2 : (0 : Int32) < 2) (f_3_0_0 : ¬ 0 < i0v0) : nkk ≤ 6 := by
  first
  | assumption
  | omega
  | (first | exact (xrs_b (Lv := (nrm i0v0 i0v1 i0v2 i0v3 i0h i0v5 i0w i0k i0g1 i0g2 i0g3 i0g4 i0g5)) (An := az) (I0 := (nrm i0v0 i0v1 i0v2 i0v3 i0h i0v5 i0w i0k i0g1 i0g2 i0g3 i0g4 i0g5)) (I1 := (nrm i1v0 i1v1 i1v2 i1v3 i1h i1v5 i1w i1k i1g1 i1g2 i1g3 i1g4 i1g5)) (Or.inl c_1)).2.1.symm | exact (xrs_b (Lv := (nrm i0v0 i0v1 i0v2 i0v3 i0h i0v5 i0w i0k i0g1 i0g2 i0g3 i0g4 i0g5)) (An := az) (I0 := (nrm i0v0 i0v1 i0v2 i0v3 i0h i0v5 i0w i0k i0g1 i0g2 i0g3 i0g4 i0g5)) (I1 := (nrm i1v0 i1v1 i1v2 i1v3 i1h i1v5 i1w i1k i1g1 i1g2 i1g3 i1g4 i1g5)) (Or.inl c_1)).2.2.symm | exact (xrs_b (Lv := (nrm nv0 nv1 nv2 nv3 nhh nv5 nww nkk ng1 ng2 ng3 ng4 ng5)) (An := az) (I0 := (nrm i0v0 i0v1 i0v2 i0v3 i0h i0v5 i0w i0k i0g1 i0g2 i0g3 i0g4 i0g5)) (I1 := (nrm i1v0 i1v1 i1v2 i1v3 i1h i1v5 i1w i1k i1g1 i1g2 i1g3 i1g4 i1g5)) (Or.inl c_1)).1.symm)
  | (first | exact (xrs_b (Lv := (nrm i0v0 i0v1 i0v2 i0v3 i0h i0v5 i0w i0k i0g1 i0g2 i0g3 i0g4 i0g5)) (An := az) (I0 := (nrm i0v0 i0v1 i0v2 i0v3 i0h i0v5 i0w i0k i0g1 i0g2 i0g3 i0g4 i0g5)) (I1 := (nrm i1v0 i1v1 i1v2 i1v3 i1h i1v5 i1w i1k i1g1 i1g2 i1g3 i1g4 i1g5)) (Or.inr c_2)).2.1.symm | exact (xrs_b (Lv := (nrm i0v0 i0v1 i0v2 i0v3 i0h i0v5 i0w i0k i0g1 i0g2 i0g3 i0g4 i0g5)) (An := az) (I0 := (nrm i0v0 i0v1 i0v2 i0v3 i0h i0v5 i0w i0k i0g1 i0g2 i0g3 i0g4 i0g5)) (I1 := (nrm i1v0 i1v1 i1v2 i1v3 i1h i1v5 i1w i1k i1g1 i1g2 i1g3 i1g4 i1g5)) (Or.inr c_2)).2.2.symm | exact (xrs_b (Lv := (nrm nv0 nv1 nv2 nv3 nhh nv5 nww nkk ng1 ng2 ng3 ng4 ng5)) (An := az) (I0 := (nrm i0v0 i0v1 i0v2 i0v3 i0h i0v5 i0w i0k i0g1 i0g2 i0g3 i0g4 i0g5)) (I1 := (nrm i1v0 i1v1 i1v2 i1v3 i1h i1v5 i1w i1k i1g1 i1g2 i1g3 i1g4 i1g5)) (Or.inr c_2)).1.symm)
  | (have y := ((tX hL0 hg1 hg2 (by omega)).1 (by assumption)).1
     first | exact (xrs_00 (Lv := (nrm i0v0 i0v1 i0v2 i0v3 i0h i0v5 i0w i0k i0g1 i0g2 i0g3 i0g4 i0g5)) (An := az) (I0 := (nrm i0v0 i0v1 i0v2 i0v3 i0h i0v5 i0w i0k i0g1 i0g2 i0g3 i0g4 i0g5)) (I1 := (nrm i1v0 i1v1 i1v2 i1v3 i1h i1v5 i1w i1k i1g1 i1g2 i1g3 i1g4 i1g5)) (nr0.trans y)).2.1.symm | exact (xrs_00 (Lv := (nrm i0v0 i0v1 i0v2 i0v3 i0h i0v5 i0w i0k i0g1 i0g2 i0g3 i0g4 i0g5)) (An := az) (I0 := (nrm i0v0 i0v1 i0v2 i0v3 i0h i0v5 i0w i0k i0g1 i0g2 i0g3 i0g4 i0g5)) (I1 := (nrm i1v0 i1v1 i1v2 i1v3 i1h i1v5 i1w i1k i1g1 i1g2 i1g3 i1g4 i1g5)) (nr0.trans y)).2.2.symm | exact (xrs_00 (Lv := (nrm nv0 nv1 nv2 nv3 nhh nv5 nww nkk ng1 ng2 ng3 ng4 ng5)) (An := az) (I0 := (nrm i0v0 i0v1 i0v2 i0v3 i0h i0v5 i0w i0k i0g1 i0g2 i0g3 i0g4 i0g5)) (I1 := (nrm i1v0 i1v1 i1v2 i1v3 i1h i1v5 i1w i1k i1g1 i1g2 i1g3 i1g4 i1g5)) (nr0.trans y)).1.symm)
  | (have y := ((tX hL1 hg4 hg5 (by omega)).1 (by assumption)).1
     first | exact (xrs_10 (Lv := (nrm i0v0 i0v1 i0v2 i0v3 i0h i0v5 i0w i0k i0g1 i0g2 i0g3 i0g4 i0g5)) (An := az) (I0 := (nrm i0v0 i0v1 i0v2 i0v3 i0h i0v5 i0w i0k i0g1 i0g2 i0g3 i0g4 i0g5)) (I1 := (nrm i1v0 i1v1 i1v2 i1v3 i1h i1v5 i1w i1k i1g1 i1g2 i1g3 i1g4 i1g5)) (nr0.trans y)).2.1.symm | exact (xrs_10 (Lv := (nrm i0v0 i0v1 i0v2 i0v3 i0h i0v5 i0w i0k i0g1 i0g2 i0g3 i0g4 i0g5)) (An := az) (I0 := (nrm i0v0 i0v1 i0v2 i0v3 i0h i0v5 i0w i0k i0g1 i0g2 i0g3 i0g4 i0g5)) (I1 := (nrm i1v0 i1v1 i1v2 i1v3 i1h i1v5 i1w i1k i1g1 i1g2 i1g3 i1g4 i1g5)) (nr0.trans y)).2.2.symm | exact (xrs_10 (Lv := (nrm nv0 nv1 nv2 nv3 nhh nv5 nww nkk ng1 ng2 ng3 ng4 ng5)) (An := az) (I0 := (nrm i0v0 i0v1 i0v2 i0v3 i0h i0v5 i0w i0k i0g1 i0g2 i0g3 i0g4 i0g5)) (I1 := (nrm i1v0 i1v1 i1v2 i1v3 i1h i1v5 i1w i1k i1g1 i1g2 i1g3 i1g4 i1g5)) (nr0.trans y)).1.symm)
  | (have y := ((tX hL0 hg1 hg2 (by omega)).2 (by assumption)).1
     first | exact (xrs_01 (Lv := (nrm i0v0 i0v1 i0v2 i0v3 i0h i0v5 i0w i0k i0g1 i0g2 i0g3 i0g4 i0g5)) (An := az) (I0 := (nrm i0v0 i0v1 i0v2 i0v3 i0h i0v5 i0w i0k i0g1 i0g2 i0g3 i0g4 i0g5)) (I1 := (nrm i1v0 i1v1 i1v2 i1v3 i1h i1v5 i1w i1k i1g1 i1g2 i1g3 i1g4 i1g5)) (by rw [nr0]; exact y)).2.1.symm | exact (xrs_01 (Lv := (nrm i0v0 i0v1 i0v2 i0v3 i0h i0v5 i0w i0k i0g1 i0g2 i0g3 i0g4 i0g5)) (An := az) (I0 := (nrm i0v0 i0v1 i0v2 i0v3 i0h i0v5 i0w i0k i0g1 i0g2 i0g3 i0g4 i0g5)) (I1 := (nrm i1v0 i1v1 i1v2 i1v3 i1h i1v5 i1w i1k i1g1 i1g2 i1g3 i1g4 i1g5)) (by rw [nr0]; exact y)).2.2.symm | exact (nr_eq hg1 hg2 (by assumption) (by assumption) (by assumption) (by assumption) (by assumption)).trans (xrs_01 (Lv := (nrm nv0 nv1 nv2 nv3 nhh nv5 nww nkk ng1 ng2 ng3 ng4 ng5)) (An := az) (I0 := (nrm i0v0 i0v1 i0v2 i0v3 i0h i0v5 i0w i0k i0g1 i0g2 i0g3 i0g4 i0g5)) (I1 := (nrm i1v0 i1v1 i1v2 i1v3 i1h i1v5 i1w i1k i1g1 i1g2 i1g3 i1g4 i1g5)) (by rw [nr0]; exact y)).1.symm)
  | (have y := ((tX hL1 hg4 hg5 (by omega)).2 (by assumption)).1
     first | exact (xrs_11 (Lv := (nrm i0v0 i0v1 i0v2 i0v3 i0h i0v5 i0w i0k i0g1 i0g2 i0g3 i0g4 i0g5)) (An := az) (I0 := (nrm i0v0 i0v1 i0v2 i0v3 i0h i0v5 i0w i0k i0g1 i0g2 i0g3 i0g4 i0g5)) (I1 := (nrm i1v0 i1v1 i1v2 i1v3 i1h i1v5 i1w i1k i1g1 i1g2 i1g3 i1g4 i1g5)) (by rw [nr0]; exact y)).2.1.symm | exact (xrs_11 (Lv := (nrm i0v0 i0v1 i0v2 i0v3 i0h i0v5 i0w i0k i0g1 i0g2 i0g3 i0g4 i0g5)) (An := az) (I0 := (nrm i0v0 i0v1 i0v2 i0v3 i0h i0v5 i0w i0k i0g1 i0g2 i0g3 i0g4 i0g5)) (I1 := (nrm i1v0 i1v1 i1v2 i1v3 i1h i1v5 i1w i1k i1g1 i1g2 i1g3 i1g4 i1g5)) (by rw [nr0]; exact y)).2.2.symm | exact (nr_eq hg4 hg5 (by assumption) (by assumption) (by assumption) (by assumption) (by assumption)).trans (xrs_11 (Lv := (nrm nv0 nv1 nv2 nv3 nhh nv5 nww nkk ng1 ng2 ng3 ng4 ng5)) (An := az) (I0 := (nrm i0v0 i0v1 i0v2 i0v3 i0h i0v5 i0w i0k i0g1 i0g2 i0g3 i0g4 i0g5)) (I1 := (nrm i1v0 i1v1 i1v2 i1v3 i1h i1v5 i1w i1k i1g1 i1g2 i1g3 i1g4 i1g5)) (by rw [nr0]; exact y)).1.symm)
theorem lf_X7_restore_11 {nhh : Nat} {nww : Nat} {nkk : Nat} {fi : Nat → Option Nat} {i0 : Nat} {i0v0 : Int32} {i0v1 : Int32} {i0v2 : Int32} {i0v3 : Int32} {i0v5 : Int32} {i0h : Nat} {i0w : Nat} {i0k : Nat} {i0g1 : Nat → Int32} {i0g2 : Nat → Int32} {i0g3 : Nat → Int32} {i0g4 : Nat → Int32} {i0g5 : Nat → Int32} {i1 : Nat} {i1v0 : Int32} {i1v1 : Int32} {i1v2 : Int32} {i1v3 : Int32} {i1v5 : Int32} {i1h : Nat} {i1w : Nat} {i1k : Nat} {i1g1 : Nat → Int32} {i1g2 : Nat → Int32} {i1g3 : Nat → Int32} {i1g4 : Nat → Int32} {i1g5 : Nat → Int32} {az : Nat} (nhb : nhh ≤ 999) (nwb : nww ≤ 6) (nkb : nkk ≤ 6) (hi0 : fi 0 = some i0) (hi1 : fi 1 = some i1) (hg0 : i0h ≤ 999) (hg1 : i0w ≤ 6) (hg2 : i0k ≤ 6) (hg3 : i1h ≤ 999) (hg4 : i1w ≤ 6) (hg5 : i1k ≤ 6) (haz : az ≤ 24) (hL0 : okLv (nrm i0v0 i0v1 i0v2 i0v3 i0h i0v5 i0w i0k i0g1 i0g2 i0g3 i0g4 i0g5)) (hL1 : okLv (nrm i1v0 i1v1 i1v2 i1v3 i1h i1v5 i1w i1k i1g1 i1g2 i1g3 i1g4 i1g5)) (c_1 : ¬ ((0 : Int32) < 0)) (c_2 : (0 : Int32) < 2) (f_3_0_0 : ¬ 0 < i0v0) : az ≤ 24 := by
  first
  | assumption
  | omega
  | (first | exact (xrs_b (Lv := (nrm i0v0 i0v1 i0v2 i0v3 i0h i0v5 i0w i0k i0g1 i0g2 i0g3 i0g4 i0g5)) (An := az) (I0 := (nrm i0v0 i0v1 i0v2 i0v3 i0h i0v5 i0w i0k i0g1 i0g2 i0g3 i0g4 i0g5)) (I1 := (nrm i1v0 i1v1 i1v2 i1v3 i1h i1v5 i1w i1k i1g1 i1g2 i1g3 i1g4 i1g5)) (Or.inl c_1)).2.1.symm | exact (xrs_b (Lv := (nrm i0v0 i0v1 i0v2 i0v3 i0h i0v5 i0w i0k i0g1 i0g2 i0g3 i0g4 i0g5)) (An := az) (I0 := (nrm i0v0 i0v1 i0v2 i0v3 i0h i0v5 i0w i0k i0g1 i0g2 i0g3 i0g4 i0g5)) (I1 := (nrm i1v0 i1v1 i1v2 i1v3 i1h i1v5 i1w i1k i1g1 i1g2 i1g3 i1g4 i1g5)) (Or.inl c_1)).2.2.symm | exact (xrs_b (Lv := (nrm nv0 nv1 nv2 nv3 nhh nv5 nww nkk ng1 ng2 ng3 ng4 ng5)) (An := az) (I0 := (nrm i0v0 i0v1 i0v2 i0v3 i0h i0v5 i0w i0k i0g1 i0g2 i0g3 i0g4 i0g5)) (I1 := (nrm i1v0 i1v1 i1v2 i1v3 i1h i1v5 i1w i1k i1g1 i1g2 i1g3 i1g4 i1g5)) (Or.inl c_1)).1.symm)
  | (first | exact (xrs_b (Lv := (nrm i0v0 i0v1 i0v2 i0v3 i0h i0v5 i0w i0k i0g1 i0g2 i0g3 i0g4 i0g5)) (An := az) (I0 := (nrm i0v0 i0v1 i0v2 i0v3 i0h i0v5 i0w i0k i0g1 i0g2 i0g3 i0g4 i0g5)) (I1 := (nrm i1v0 i1v1 i1v2 i1v3 i1h i1v5 i1w i1k i1g1 i1g2 i1g3 i1g4 i1g5)) (Or.inr c_2)).2.1.symm | exact (xrs_b (Lv := (nrm i0v0 i0v1 i0v2 i0v3 i0h i0v5 i0w i0k i0g1 i0g2 i0g3 i0g4 i0g5)) (An := az) (I0 := (nrm i0v0 i0v1 i0v2 i0v3 i0h i0v5 i0w i0k i0g1 i0g2 i0g3 i0g4 i0g5)) (I1 := (nrm i1v0 i1v1 i1v2 i1v3 i1h i1v5 i1w i1k i1g1 i1g2 i1g3 i1g4 i1g5)) (Or.inr c_2)).2.2.symm | exact (xrs_b (Lv := (nrm nv0 nv1 nv2 nv3 nhh nv5 nww nkk ng1 ng2 ng3 ng4 ng5)) (An := az) (I0 := (nrm i0v0 i0v1 i0v2 i0v3 i0h i0v5 i0w i0k i0g1 i0g2 i0g3 i0g4 i0g5)) (I1 := (nrm i1v0 i1v1 i1v2 i1v3 i1h i1v5 i1w i1k i1g1 i1g2 i1g3 i1g4 i1g5)) (Or.inr c_2)).1.symm)
  | (have y := ((tX hL0 hg1 hg2 (by omega)).1 (by assumption)).1
     first | exact (xrs_00 (Lv := (nrm i0v0 i0v1 i0v2 i0v3 i0h i0v5 i0w i0k i0g1 i0g2 i0g3 i0g4 i0g5)) (An := az) (I0 := (nrm i0v0 i0v1 i0v2 i0v3 i0h i0v5 i0w i0k i0g1 i0g2 i0g3 i0g4 i0g5)) (I1 := (nrm i1v0 i1v1 i1v2 i1v3 i1h i1v5 i1w i1k i1g1 i1g2 i1g3 i1g4 i1g5)) (nr0.trans y)).2.1.symm | exact (xrs_00 (Lv := (nrm i0v0 i0v1 i0v2 i0v3 i0h i0v5 i0w i0k i0g1 i0g2 i0g3 i0g4 i0g5)) (An := az) (I0 := (nrm i0v0 i0v1 i0v2 i0v3 i0h i0v5 i0w i0k i0g1 i0g2 i0g3 i0g4 i0g5)) (I1 := (nrm i1v0 i1v1 i1v2 i1v3 i1h i1v5 i1w i1k i1g1 i1g2 i1g3 i1g4 i1g5)) (nr0.trans y)).2.2.symm | exact (xrs_00 (Lv := (nrm nv0 nv1 nv2 nv3 nhh nv5 nww nkk ng1 ng2 ng3 ng4 ng5)) (An := az) (I0 := (nrm i0v0 i0v1 i0v2 i0v3 i0h i0v5 i0w i0k i0g1 i0g2 i0g3 i0g4 i0g5)) (I1 := (nrm i1v0 i1v1 i1v2 i1v3 i1h i1v5 i1w i1k i1g1 i1g2 i1g3 i1g4 i1g5)) (nr0.trans y)).1.symm)
  | (have y := ((tX hL1 hg4 hg5 (by omega)).1 (by assumption)).1
     first | exact (xrs_10 (Lv := (nrm i0v0 i0v1 i0v2 i0v3 i0h i0v5 i0w i0k i0g1 i0g2 i0g3 i0g4 i0g5)) (An := az) (I0 := (nrm i0v0 i0v1 i0v2 i0v3 i0h i0v5 i0w i0k i0g1 i0g2 i0g3 i0g4 i0g5)) (I1 := (nrm i1v0 i1v1 i1v2 i1v3 i1h i1v5 i1w i1k i1g1 i1g2 i1g3 i1g4 i1g5)) (nr0.trans y)).2.1.symm | exact (xrs_10 (Lv := (nrm i0v0 i0v1 i0v2 i0v3 i0h i0v5 i0w i0k i0g1 i0g2 i0g3 i0g4 i0g5)) (An := az) (I0 := (nrm i0v0 i0v1 i0v2 i0v3 i0h i0v5 i0w i0k i0g1 i0g2 i0g3 i0g4 i0g5)) (I1 := (nrm i1v0 i1v1 i1v2 i1v3 i1h i1v5 i1w i1k i1g1 i1g2 i1g3 i1g4 i1g5)) (nr0.trans y)).2.2.symm | exact (xrs_10 (Lv := (nrm nv0 nv1 nv2 nv3 nhh nv5 nww nkk ng1 ng2 ng3 ng4 ng5)) (An := az) (I0 := (nrm i0v0 i0v1 i0v2 i0v3 i0h i0v5 i0w i0k i0g1 i0g2 i0g3 i0g4 i0g5)) (I1 := (nrm i1v0 i1v1 i1v2 i1v3 i1h i1v5 i1w i1k i1g1 i1g2 i1g3 i1g4 i1g5)) (nr0.trans y)).1.symm)
  | (have y := ((tX hL0 hg1 hg2 (by omega)).2 (by assumption)).1
     first | exact (xrs_01 (Lv := (nrm i0v0 i0v1 i0v2 i0v3 i0h i0v5 i0w i0k i0g1 i0g2 i0g3 i0g4 i0g5)) (An := az) (I0 := (nrm i0v0 i0v1 i0v2 i0v3 i0h i0v5 i0w i0k i0g1 i0g2 i0g3 i0g4 i0g5)) (I1 := (nrm i1v0 i1v1 i1v2 i1v3 i1h i1v5 i1w i1k i1g1 i1g2 i1g3 i1g4 i1g5)) (by rw [nr0]; exact y)).2.1.symm | exact (xrs_01 (Lv := (nrm i0v0 i0v1 i0v2 i0v3 i0h i0v5 i0w i0k i0g1 i0g2 i0g3 i0g4 i0g5)) (An := az) (I0 := (nrm i0v0 i0v1 i0v2 i0v3 i0h i0v5 i0w i0k i0g1 i0g2 i0g3 i0g4 i0g5)) (I1 := (nrm i1v0 i1v1 i1v2 i1v3 i1h i1v5 i1w i1k i1g1 i1g2 i1g3 i1g4 i1g5)) (by rw [nr0]; exact y)).2.2.symm | exact (nr_eq hg1 hg2 (by assumption) (by assumption) (by assumption) (by assumption) (by assumption)).trans (xrs_01 (Lv := (nrm nv0 nv1 nv2 nv3 nhh nv5 nww nkk ng1 ng2 ng3 ng4 ng5)) (An := az) (I0 := (nrm i0v0 i0v1 i0v2 i0v3 i0h i0v5 i0w i0k i0g1 i0g2 i0g3 i0g4 i0g5)) (I1 := (nrm i1v0 i1v1 i1v2 i1v3 i1h i1v5 i1w i1k i1g1 i1g2 i1g3 i1g4 i1g5)) (by rw [nr0]; exact y)).1.symm)
  | (have y := ((tX hL1 hg4 hg5 (by omega)).2 (by assumption)).1
     first | exact (xrs_11 (Lv := (nrm i0v0 i0v1 i0v2 i0v3 i0h i0v5 i0w i0k i0g1 i0g2 i0g3 i0g4 i0g5)) (An := az) (I0 := (nrm i0v0 i0v1 i0v2 i0v3 i0h i0v5 i0w i0k i0g1 i0g2 i0g3 i0g4 i0g5)) (I1 := (nrm i1v0 i1v1 i1v2 i1v3 i1h i1v5 i1w i1k i1g1 i1g2 i1g3 i1g4 i1g5)) (by rw [nr0]; exact y)).2.1.symm | exact (xrs_11 (Lv := (nrm i0v0 i0v1 i0v2 i0v3 i0h i0v5 i0w i0k i0g1 i0g2 i0g3 i0g4 i0g5)) (An := az) (I0 := (nrm i0v0 i0v1 i0v2 i0v3 i0h i0v5 i0w i0k i0g1 i0g2 i0g3 i0g4 i0g5)) (I1 := (nrm i1v0 i1v1 i1v2 i1v3 i1h i1v5 i1w i1k i1g1 i1g2 i1g3 i1g4 i1g5)) (by rw [nr0]; exact y)).2.2.symm | exact (nr_eq hg4 hg5 (by assumption) (by assumption) (by assumption) (by assumption) (by assumption)).trans (xrs_11 (Lv := (nrm nv0 nv1 nv2 nv3 nhh nv5 nww nkk ng1 ng2 ng3 ng4 ng5)) (An := az) (I0 := (nrm i0v0 i0v1 i0v2 i0v3 i0h i0v5 i0w i0k i0g1 i0g2 i0g3 i0g4 i0g5)) (I1 := (nrm i1v0 i1v1 i1v2 i1v3 i1h i1v5 i1w i1k i1g1 i1g2 i1g3 i1g4 i1g5)) (by rw [nr0]; exact y)).1.symm)
theorem lf_X7_restore_12 {nv0 : Int32} {nv1 : Int32} {nv2 : Int32} {nv3 : Int32} {nv5 : Int32} {nhh : Nat} {nww : Nat} {nkk : Nat} {ng1 : Nat → Int32} {ng2 : Nat → Int32} {ng3 : Nat → Int32} {ng4 : Nat → Int32} {ng5 : Nat → Int32} {fi : Nat → Option Nat} {i0 : Nat} {i0v0 : Int32} {i0v1 : Int32} {i0v2 : Int32} {i0v3 : Int32} {i0v5 : Int32} {i0h : Nat} {i0w : Nat} {i0k : Nat} {i0g1 : Nat → Int32} {i0g2 : Nat → Int32} {i0g3 : Nat → Int32} {i0g4 : Nat → Int32} {i0g5 : Nat → Int32} {i1 : Nat} {i1v0 : Int32} {i1v1 : Int32} {i1v2 : Int32} {i1v3 : Int32} {i1v5 : Int32} {i1h : Nat} {i1w : Nat} {i1k : Nat} {i1g1 : Nat → Int32} {i1g2 : Nat → Int32} {i1g3 : Nat → Int32} {i1g4 : Nat → Int32} {i1g5 : Nat → Int32} {az : Nat} (nhb : nhh ≤ 999) (nwb : nww ≤ 6) (nkb : nkk ≤ 6) (hi0 : fi 0 = some i0) (hi1 : fi 1 = some i1) (hg0 : i0h ≤ 999) (hg1 : i0w ≤ 6) (hg2 : i0k ≤ 6) (hg3 : i1h ≤ 999) (hg4 : i1w ≤ 6) (hg5 : i1k ≤ 6) (haz : az ≤ 24) (hL0 : okLv (nrm i0v0 i0v1 i0v2 i0v3 i0h i0v5 i0w i0k i0g1 i0g2 i0g3 i0g4 i0g5)) (hL1 : okLv (nrm i1v0 i1v1 i1v2 i1v3 i1h i1v5 i1w i1k i1g1 i1g2 i1g3 i1g4 i1g5)) (c_1 : ¬ ((0 : Int32) < 0)) (c_2 : (0 : Int32) < 2) (f_3_0_0 : ¬ 0 < i0v0) : (nrm nv0 nv1 nv2 nv3 nhh nv5 nww nkk ng1 ng2 ng3 ng4 ng5) = n_rst (nrm nv0 nv1 nv2 nv3 nhh nv5 nww nkk ng1 ng2 ng3 ng4 ng5) (nrm i0v0 i0v1 i0v2 i0v3 i0h i0v5 i0w i0k i0g1 i0g2 i0g3 i0g4 i0g5) (nrm i1v0 i1v1 i1v2 i1v3 i1h i1v5 i1w i1k i1g1 i1g2 i1g3 i1g4 i1g5) (0 : Int32) := by
  first
  | assumption
  | omega
  | (first | exact (xrs_b (Lv := (nrm i0v0 i0v1 i0v2 i0v3 i0h i0v5 i0w i0k i0g1 i0g2 i0g3 i0g4 i0g5)) (An := az) (I0 := (nrm i0v0 i0v1 i0v2 i0v3 i0h i0v5 i0w i0k i0g1 i0g2 i0g3 i0g4 i0g5)) (I1 := (nrm i1v0 i1v1 i1v2 i1v3 i1h i1v5 i1w i1k i1g1 i1g2 i1g3 i1g4 i1g5)) (Or.inl c_1)).2.1.symm | exact (xrs_b (Lv := (nrm i0v0 i0v1 i0v2 i0v3 i0h i0v5 i0w i0k i0g1 i0g2 i0g3 i0g4 i0g5)) (An := az) (I0 := (nrm i0v0 i0v1 i0v2 i0v3 i0h i0v5 i0w i0k i0g1 i0g2 i0g3 i0g4 i0g5)) (I1 := (nrm i1v0 i1v1 i1v2 i1v3 i1h i1v5 i1w i1k i1g1 i1g2 i1g3 i1g4 i1g5)) (Or.inl c_1)).2.2.symm | exact (xrs_b (Lv := (nrm nv0 nv1 nv2 nv3 nhh nv5 nww nkk ng1 ng2 ng3 ng4 ng5)) (An := az) (I0 := (nrm i0v0 i0v1 i0v2 i0v3 i0h i0v5 i0w i0k i0g1 i0g2 i0g3 i0g4 i0g5)) (I1 := (nrm i1v0 i1v1 i1v2 i1v3 i1h i1v5 i1w i1k i1g1 i1g2 i1g3 i1g4 i1g5)) (Or.inl c_1)).1.symm)
  | (first | exact (xrs_b (Lv := (nrm i0v0 i0v1 i0v2 i0v3 i0h i0v5 i0w i0k i0g1 i0g2 i0g3 i0g4 i0g5)) (An := az) (I0 := (nrm i0v0 i0v1 i0v2 i0v3 i0h i0v5 i0w i0k i0g1 i0g2 i0g3 i0g4 i0g5)) (I1 := (nrm i1v0 i1v1 i1v2 i1v3 i1h i1v5 i1w i1k i1g1 i1g2 i1g3 i1g4 i1g5)) (Or.inr c_2)).2.1.symm | exact (xrs_b (Lv := (nrm i0v0 i0v1 i0v2 i0v3 i0h i0v5 i0w i0k i0g1 i0g2 i0g3 i0g4 i0g5)) (An := az) (I0 := (nrm i0v0 i0v1 i0v2 i0v3 i0h i0v5 i0w i0k i0g1 i0g2 i0g3 i0g4 i0g5)) (I1 := (nrm i1v0 i1v1 i1v2 i1v3 i1h i1v5 i1w i1k i1g1 i1g2 i1g3 i1g4 i1g5)) (Or.inr c_2)).2.2.symm | exact (xrs_b (Lv := (nrm nv0 nv1 nv2 nv3 nhh nv5 nww nkk ng1 ng2 ng3 ng4 ng5)) (An := az) (I0 := (nrm i0v0 i0v1 i0v2 i0v3 i0h i0v5 i0w i0k i0g1 i0g2 i0g3 i0g4 i0g5)) (I1 := (nrm i1v0 i1v1 i1v2 i1v3 i1h i1v5 i1w i1k i1g1 i1g2 i1g3 i1g4 i1g5)) (Or.inr c_2)).1.symm)
  | (have y := ((tX hL0 hg1 hg2 (by omega)).1 (by assumption)).1
     first | exact (xrs_00 (Lv := (nrm i0v0 i0v1 i0v2 i0v3 i0h i0v5 i0w i0k i0g1 i0g2 i0g3 i0g4 i0g5)) (An := az) (I0 := (nrm i0v0 i0v1 i0v2 i0v3 i0h i0v5 i0w i0k i0g1 i0g2 i0g3 i0g4 i0g5)) (I1 := (nrm i1v0 i1v1 i1v2 i1v3 i1h i1v5 i1w i1k i1g1 i1g2 i1g3 i1g4 i1g5)) (nr0.trans y)).2.1.symm | exact (xrs_00 (Lv := (nrm i0v0 i0v1 i0v2 i0v3 i0h i0v5 i0w i0k i0g1 i0g2 i0g3 i0g4 i0g5)) (An := az) (I0 := (nrm i0v0 i0v1 i0v2 i0v3 i0h i0v5 i0w i0k i0g1 i0g2 i0g3 i0g4 i0g5)) (I1 := (nrm i1v0 i1v1 i1v2 i1v3 i1h i1v5 i1w i1k i1g1 i1g2 i1g3 i1g4 i1g5)) (nr0.trans y)).2.2.symm | exact (xrs_00 (Lv := (nrm nv0 nv1 nv2 nv3 nhh nv5 nww nkk ng1 ng2 ng3 ng4 ng5)) (An := az) (I0 := (nrm i0v0 i0v1 i0v2 i0v3 i0h i0v5 i0w i0k i0g1 i0g2 i0g3 i0g4 i0g5)) (I1 := (nrm i1v0 i1v1 i1v2 i1v3 i1h i1v5 i1w i1k i1g1 i1g2 i1g3 i1g4 i1g5)) (nr0.trans y)).1.symm)
  | (have y := ((tX hL1 hg4 hg5 (by omega)).1 (by assumption)).1
     first | exact (xrs_10 (Lv := (nrm i0v0 i0v1 i0v2 i0v3 i0h i0v5 i0w i0k i0g1 i0g2 i0g3 i0g4 i0g5)) (An := az) (I0 := (nrm i0v0 i0v1 i0v2 i0v3 i0h i0v5 i0w i0k i0g1 i0g2 i0g3 i0g4 i0g5)) (I1 := (nrm i1v0 i1v1 i1v2 i1v3 i1h i1v5 i1w i1k i1g1 i1g2 i1g3 i1g4 i1g5)) (nr0.trans y)).2.1.symm | exact (xrs_10 (Lv := (nrm i0v0 i0v1 i0v2 i0v3 i0h i0v5 i0w i0k i0g1 i0g2 i0g3 i0g4 i0g5)) (An := az) (I0 := (nrm i0v0 i0v1 i0v2 i0v3 i0h i0v5 i0w i0k i0g1 i0g2 i0g3 i0g4 i0g5)) (I1 := (nrm i1v0 i1v1 i1v2 i1v3 i1h i1v5 i1w i1k i1g1 i1g2 i1g3 i1g4 i1g5)) (nr0.trans y)).2.2.symm | exact (xrs_10 (Lv := (nrm nv0 nv1 nv2 nv3 nhh nv5 nww nkk ng1 ng2 ng3 ng4 ng5)) (An := az) (I0 := (nrm i0v0 i0v1 i0v2 i0v3 i0h i0v5 i0w i0k i0g1 i0g2 i0g3 i0g4 i0g5)) (I1 := (nrm i1v0 i1v1 i1v2 i1v3 i1h i1v5 i1w i1k i1g1 i1g2 i1g3 i1g4 i1g5)) (nr0.trans y)).1.symm)
  | (have y := ((tX hL0 hg1 hg2 (by omega)).2 (by assumption)).1
     first | exact (xrs_01 (Lv := (nrm i0v0 i0v1 i0v2 i0v3 i0h i0v5 i0w i0k i0g1 i0g2 i0g3 i0g4 i0g5)) (An := az) (I0 := (nrm i0v0 i0v1 i0v2 i0v3 i0h i0v5 i0w i0k i0g1 i0g2 i0g3 i0g4 i0g5)) (I1 := (nrm i1v0 i1v1 i1v2 i1v3 i1h i1v5 i1w i1k i1g1 i1g2 i1g3 i1g4 i1g5)) (by rw [nr0]; exact y)).2.1.symm | exact (xrs_01 (Lv := (nrm i0v0 i0v1 i0v2 i0v3 i0h i0v5 i0w i0k i0g1 i0g2 i0g3 i0g4 i0g5)) (An := az) (I0 := (nrm i0v0 i0v1 i0v2 i0v3 i0h i0v5 i0w i0k i0g1 i0g2 i0g3 i0g4 i0g5)) (I1 := (nrm i1v0 i1v1 i1v2 i1v3 i1h i1v5 i1w i1k i1g1 i1g2 i1g3 i1g4 i1g5)) (by rw [nr0]; exact y)).2.2.symm | exact (nr_eq hg1 hg2 (by assumption) (by assumption) (by assumption) (by assumption) (by assumption)).trans (xrs_01 (Lv := (nrm nv0 nv1 nv2 nv3 nhh nv5 nww nkk ng1 ng2 ng3 ng4 ng5)) (An := az) (I0 := (nrm i0v0 i0v1 i0v2 i0v3 i0h i0v5 i0w i0k i0g1 i0g2 i0g3 i0g4 i0g5)) (I1 := (nrm i1v0 i1v1 i1v2 i1v3 i1h i1v5 i1w i1k i1g1 i1g2 i1g3 i1g4 i1g5)) (by rw [nr0]; exact y)).1.symm)
  | (have y := ((tX hL1 hg4 hg5 (by omega)).2 (by assumption)).1
     first | exact (xrs_11 (Lv := (nrm i0v0 i0v1 i0v2 i0v3 i0h i0v5 i0w i0k i0g1 i0g2 i0g3 i0g4 i0g5)) (An := az) (I0 := (nrm i0v0 i0v1 i0v2 i0v3 i0h i0v5 i0w i0k i0g1 i0g2 i0g3 i0g4 i0g5)) (I1 := (nrm i1v0 i1v1 i1v2 i1v3 i1h i1v5 i1w i1k i1g1 i1g2 i1g3 i1g4 i1g5)) (by rw [nr0]; exact y)).2.1.symm | exact (xrs_11 (Lv := (nrm i0v0 i0v1 i0v2 i0v3 i0h i0v5 i0w i0k i0g1 i0g2 i0g3 i0g4 i0g5)) (An := az) (I0 := (nrm i0v0 i0v1 i0v2 i0v3 i0h i0v5 i0w i0k i0g1 i0g2 i0g3 i0g4 i0g5)) (I1 := (nrm i1v0 i1v1 i1v2 i1v3 i1h i1v5 i1w i1k i1g1 i1g2 i1g3 i1g4 i1g5)) (by rw [nr0]; exact y)).2.2.symm | exact (nr_eq hg4 hg5 (by assumption) (by assumption) (by assumption) (by assumption) (by assumption)).trans (xrs_11 (Lv := (nrm nv0 nv1 nv2 nv3 nhh nv5 nww nkk ng1 ng2 ng3 ng4 ng5)) (An := az) (I0 := (nrm i0v0 i0v1 i0v2 i0v3 i0h i0v5 i0w i0k i0g1 i0g2 i0g3 i0g4 i0g5)) (I1 := (nrm i1v0 i1v1 i1v2 i1v3 i1h i1v5 i1w i1k i1g1 i1g2 i1g3 i1g4 i1g5)) (by rw [nr0]; exact y)).1.symm)
theorem lf_X7_restore_13 {nhh : Nat} {nww : Nat} {nkk : Nat} {fi : Nat → Option Nat} {i0 : Nat} {i0v0 : Int32} {i0v1 : Int32} {i0v2 : Int32} {i0v3 : Int32} {i0v5 : Int32} {i0h : Nat} {i0w : Nat} {i0k : Nat} {i0g1 : Nat → Int32} {i0g2 : Nat → Int32} {i0g3 : Nat → Int32} {i0g4 : Nat → Int32} {i0g5 : Nat → Int32} {i1 : Nat} {i1v0 : Int32} {i1v1 : Int32} {i1v2 : Int32} {i1v3 : Int32} {i1v5 : Int32} {i1h : Nat} {i1w : Nat} {i1k : Nat} {i1g1 : Nat → Int32} {i1g2 : Nat → Int32} {i1g3 : Nat → Int32} {i1g4 : Nat → Int32} {i1g5 : Nat → Int32} {az : Nat} (nhb : nhh ≤ 999) (nwb : nww ≤ 6) (nkb : nkk ≤ 6) (hi0 : fi 0 = some i0) (hi1 : fi 1 = some i1) (hg0 : i0h ≤ 999) (hg1 : i0w ≤ 6) (hg2 : i0k ≤ 6) (hg3 : i1h ≤ 999) (hg4 : i1w ≤ 6) (hg5 : i1k ≤ 6) (haz : az ≤ 24) (hL0 : okLv (nrm i0v0 i0v1 i0v2 i0v3 i0h i0v5 i0w i0k i0g1 i0g2 i0g3 i0g4 i0g5)) (hL1 : okLv (nrm i1v0 i1v1 i1v2 i1v3 i1h i1v5 i1w i1k i1g1 i1g2 i1g3 i1g4 i1g5)) (c_1 : ¬ ((0 : Int32) < 0)) (c_2 : (0 : Int32) < 2) (f_3_0_0 : ¬ 0 < i0v0) : az = m_rst az (nrm i0v0 i0v1 i0v2 i0v3 i0h i0v5 i0w i0k i0g1 i0g2 i0g3 i0g4 i0g5) (nrm i1v0 i1v1 i1v2 i1v3 i1h i1v5 i1w i1k i1g1 i1g2 i1g3 i1g4 i1g5) (0 : Int32) := by
  first
  | assumption
  | omega
  | (first | exact (xrs_b (Lv := (nrm i0v0 i0v1 i0v2 i0v3 i0h i0v5 i0w i0k i0g1 i0g2 i0g3 i0g4 i0g5)) (An := az) (I0 := (nrm i0v0 i0v1 i0v2 i0v3 i0h i0v5 i0w i0k i0g1 i0g2 i0g3 i0g4 i0g5)) (I1 := (nrm i1v0 i1v1 i1v2 i1v3 i1h i1v5 i1w i1k i1g1 i1g2 i1g3 i1g4 i1g5)) (Or.inl c_1)).2.1.symm | exact (xrs_b (Lv := (nrm i0v0 i0v1 i0v2 i0v3 i0h i0v5 i0w i0k i0g1 i0g2 i0g3 i0g4 i0g5)) (An := az) (I0 := (nrm i0v0 i0v1 i0v2 i0v3 i0h i0v5 i0w i0k i0g1 i0g2 i0g3 i0g4 i0g5)) (I1 := (nrm i1v0 i1v1 i1v2 i1v3 i1h i1v5 i1w i1k i1g1 i1g2 i1g3 i1g4 i1g5)) (Or.inl c_1)).2.2.symm | exact (xrs_b (Lv := (nrm nv0 nv1 nv2 nv3 nhh nv5 nww nkk ng1 ng2 ng3 ng4 ng5)) (An := az) (I0 := (nrm i0v0 i0v1 i0v2 i0v3 i0h i0v5 i0w i0k i0g1 i0g2 i0g3 i0g4 i0g5)) (I1 := (nrm i1v0 i1v1 i1v2 i1v3 i1h i1v5 i1w i1k i1g1 i1g2 i1g3 i1g4 i1g5)) (Or.inl c_1)).1.symm)
  | (first | exact (xrs_b (Lv := (nrm i0v0 i0v1 i0v2 i0v3 i0h i0v5 i0w i0k i0g1 i0g2 i0g3 i0g4 i0g5)) (An := az) (I0 := (nrm i0v0 i0v1 i0v2 i0v3 i0h i0v5 i0w i0k i0g1 i0g2 i0g3 i0g4 i0g5)) (I1 := (nrm i1v0 i1v1 i1v2 i1v3 i1h i1v5 i1w i1k i1g1 i1g2 i1g3 i1g4 i1g5)) (Or.inr c_2)).2.1.symm | exact (xrs_b (Lv := (nrm i0v0 i0v1 i0v2 i0v3 i0h i0v5 i0w i0k i0g1 i0g2 i0g3 i0g4 i0g5)) (An := az) (I0 := (nrm i0v0 i0v1 i0v2 i0v3 i0h i0v5 i0w i0k i0g1 i0g2 i0g3 i0g4 i0g5)) (I1 := (nrm i1v0 i1v1 i1v2 i1v3 i1h i1v5 i1w i1k i1g1 i1g2 i1g3 i1g4 i1g5)) (Or.inr c_2)).2.2.symm | exact (xrs_b (Lv := (nrm nv0 nv1 nv2 nv3 nhh nv5 nww nkk ng1 ng2 ng3 ng4 ng5)) (An := az) (I0 := (nrm i0v0 i0v1 i0v2 i0v3 i0h i0v5 i0w i0k i0g1 i0g2 i0g3 i0g4 i0g5)) (I1 := (nrm i1v0 i1v1 i1v2 i1v3 i1h i1v5 i1w i1k i1g1 i1g2 i1g3 i1g4 i1g5)) (Or.inr c_2)).1.symm)
  | (have y := ((tX hL0 hg1 hg2 (by omega)).1 (by assumption)).1
     first | exact (xrs_00 (Lv := (nrm i0v0 i0v1 i0v2 i0v3 i0h i0v5 i0w i0k i0g1 i0g2 i0g3 i0g4 i0g5)) (An := az) (I0 := (nrm i0v0 i0v1 i0v2 i0v3 i0h i0v5 i0w i0k i0g1 i0g2 i0g3 i0g4 i0g5)) (I1 := (nrm i1v0 i1v1 i1v2 i1v3 i1h i1v5 i1w i1k i1g1 i1g2 i1g3 i1g4 i1g5)) (nr0.trans y)).2.1.symm | exact (xrs_00 (Lv := (nrm i0v0 i0v1 i0v2 i0v3 i0h i0v5 i0w i0k i0g1 i0g2 i0g3 i0g4 i0g5)) (An := az) (I0 := (nrm i0v0 i0v1 i0v2 i0v3 i0h i0v5 i0w i0k i0g1 i0g2 i0g3 i0g4 i0g5)) (I1 := (nrm i1v0 i1v1 i1v2 i1v3 i1h i1v5 i1w i1k i1g1 i1g2 i1g3 i1g4 i1g5)) (nr0.trans y)).2.2.symm | exact (xrs_00 (Lv := (nrm nv0 nv1 nv2 nv3 nhh nv5 nww nkk ng1 ng2 ng3 ng4 ng5)) (An := az) (I0 := (nrm i0v0 i0v1 i0v2 i0v3 i0h i0v5 i0w i0k i0g1 i0g2 i0g3 i0g4 i0g5)) (I1 := (nrm i1v0 i1v1 i1v2 i1v3 i1h i1v5 i1w i1k i1g1 i1g2 i1g3 i1g4 i1g5)) (nr0.trans y)).1.symm)
  | (have y := ((tX hL1 hg4 hg5 (by omega)).1 (by assumption)).1
     first | exact (xrs_10 (Lv := (nrm i0v0 i0v1 i0v2 i0v3 i0h i0v5 i0w i0k i0g1 i0g2 i0g3 i0g4 i0g5)) (An := az) (I0 := (nrm i0v0 i0v1 i0v2 i0v3 i0h i0v5 i0w i0k i0g1 i0g2 i0g3 i0g4 i0g5)) (I1 := (nrm i1v0 i1v1 i1v2 i1v3 i1h i1v5 i1w i1k i1g1 i1g2 i1g3 i1g4 i1g5)) (nr0.trans y)).2.1.symm | exact (xrs_10 (Lv := (nrm i0v0 i0v1 i0v2 i0v3 i0h i0v5 i0w i0k i0g1 i0g2 i0g3 i0g4 i0g5)) (An := az) (I0 := (nrm i0v0 i0v1 i0v2 i0v3 i0h i0v5 i0w i0k i0g1 i0g2 i0g3 i0g4 i0g5)) (I1 := (nrm i1v0 i1v1 i1v2 i1v3 i1h i1v5 i1w i1k i1g1 i1g2 i1g3 i1g4 i1g5)) (nr0.trans y)).2.2.symm | exact (xrs_10 (Lv := (nrm nv0 nv1 nv2 nv3 nhh nv5 nww nkk ng1 ng2 ng3 ng4 ng5)) (An := az) (I0 := (nrm i0v0 i0v1 i0v2 i0v3 i0h i0v5 i0w i0k i0g1 i0g2 i0g3 i0g4 i0g5)) (I1 := (nrm i1v0 i1v1 i1v2 i1v3 i1h i1v5 i1w i1k i1g1 i1g2 i1g3 i1g4 i1g5)) (nr0.trans y)).1.symm)
  | (have y := ((tX hL0 hg1 hg2 (by omega)).2 (by assumption)).1
     first | exact (xrs_01 (Lv := (nrm i0v0 i0v1 i0v2 i0v3 i0h i0v5 i0w i0k i0g1 i0g2 i0g3 i0g4 i0g5)) (An := az) (I0 := (nrm i0v0 i0v1 i0v2 i0v3 i0h i0v5 i0w i0k i0g1 i0g2 i0g3 i0g4 i0g5)) (I1 := (nrm i1v0 i1v1 i1v2 i1v3 i1h i1v5 i1w i1k i1g1 i1g2 i1g3 i1g4 i1g5)) (by rw [nr0]; exact y)).2.1.symm | exact (xrs_01 (Lv := (nrm i0v0 i0v1 i0v2 i0v3 i0h i0v5 i0w i0k i0g1 i0g2 i0g3 i0g4 i0g5)) (An := az) (I0 := (nrm i0v0 i0v1 i0v2 i0v3 i0h i0v5 i0w i0k i0g1 i0g2 i0g3 i0g4 i0g5)) (I1 := (nrm i1v0 i1v1 i1v2 i1v3 i1h i1v5 i1w i1k i1g1 i1g2 i1g3 i1g4 i1g5)) (by rw [nr0]; exact y)).2.2.symm | exact (nr_eq hg1 hg2 (by assumption) (by assumption) (by assumption) (by assumption) (by assumption)).trans (xrs_01 (Lv := (nrm nv0 nv1 nv2 nv3 nhh nv5 nww nkk ng1 ng2 ng3 ng4 ng5)) (An := az) (I0 := (nrm i0v0 i0v1 i0v2 i0v3 i0h i0v5 i0w i0k i0g1 i0g2 i0g3 i0g4 i0g5)) (I1 := (nrm i1v0 i1v1 i1v2 i1v3 i1h i1v5 i1w i1k i1g1 i1g2 i1g3 i1g4 i1g5)) (by rw [nr0]; exact y)).1.symm)
  | (have y := ((tX hL1 hg4 hg5 (by omega)).2 (by assumption)).1
     first | exact (xrs_11 (Lv := (nrm i0v0 i0v1 i0v2 i0v3 i0h i0v5 i0w i0k i0g1 i0g2 i0g3 i0g4 i0g5)) (An := az) (I0 := (nrm i0v0 i0v1 i0v2 i0v3 i0h i0v5 i0w i0k i0g1 i0g2 i0g3 i0g4 i0g5)) (I1 := (nrm i1v0 i1v1 i1v2 i1v3 i1h i1v5 i1w i1k i1g1 i1g2 i1g3 i1g4 i1g5)) (by rw [nr0]; exact y)).2.1.symm | exact (xrs_11 (Lv := (nrm i0v0 i0v1 i0v2 i0v3 i0h i0v5 i0w i0k i0g1 i0g2 i0g3 i0g4 i0g5)) (An := az) (I0 := (nrm i0v0 i0v1 i0v2 i0v3 i0h i0v5 i0w i0k i0g1 i0g2 i0g3 i0g4 i0g5)) (I1 := (nrm i1v0 i1v1 i1v2 i1v3 i1h i1v5 i1w i1k i1g1 i1g2 i1g3 i1g4 i1g5)) (by rw [nr0]; exact y)).2.2.symm | exact (nr_eq hg4 hg5 (by assumption) (by assumption) (by assumption) (by assumption) (by assumption)).trans (xrs_11 (Lv := (nrm nv0 nv1 nv2 nv3 nhh nv5 nww nkk ng1 ng2 ng3 ng4 ng5)) (An := az) (I0 := (nrm i0v0 i0v1 i0v2 i0v3 i0h i0v5 i0w i0k i0g1 i0g2 i0g3 i0g4 i0g5)) (I1 := (nrm i1v0 i1v1 i1v2 i1v3 i1h i1v5 i1w i1k i1g1 i1g2 i1g3 i1g4 i1g5)) (by rw [nr0]; exact y)).1.symm)
theorem lf_X7_restore_14 {nhh : Nat} {nww : Nat} {nkk : Nat} {fi : Nat → Option Nat} {i0 : Nat} {i0v0 : Int32} {i0v1 : Int32} {i0v2 : Int32} {i0v3 : Int32} {i0v5 : Int32} {i0h : Nat} {i0w : Nat} {i0k : Nat} {i0g1 : Nat → Int32} {i0g2 : Nat → Int32} {i0g3 : Nat → Int32} {i0g4 : Nat → Int32} {i0g5 : Nat → Int32} {i1 : Nat} {i1v0 : Int32} {i1v1 : Int32} {i1v2 : Int32} {i1v3 : Int32} {i1v5 : Int32} {i1h : Nat} {i1w : Nat} {i1k : Nat} {i1g1 : Nat → Int32} {i1g2 : Nat → Int32} {i1g3 : Nat → Int32} {i1g4 : Nat → Int32} {i1g5 : Nat → Int32} {az : Nat} (nhb : nhh ≤ 999) (nwb : nww ≤ 6) (nkb : nkk ≤ 6) (hi0 : fi 0 = some i0) (hi1 : fi 1 = some i1) (hg0 : i0h ≤ 999) (hg1 : i0w ≤ 6) (hg2 : i0k ≤ 6) (hg3 : i1h ≤ 999) (hg4 : i1w ≤ 6) (hg5 : i1k ≤ 6) (haz : az ≤ 24) (hL0 : okLv (nrm i0v0 i0v1 i0v2 i0v3 i0h i0v5 i0w i0k i0g1 i0g2 i0g3 i0g4 i0g5)) (hL1 : okLv (nrm i1v0 i1v1 i1v2 i1v3 i1h i1v5 i1w i1k i1g1 i1g2 i1g3 i1g4 i1g5)) (c_1 : ¬ ((0 : Int32) < 0)) (c_2 : (0 : Int32) < 2) (f_3_0_0 : ¬ 0 < i0v0) : (-1000002) = (a_rst (nrm i0v0 i0v1 i0v2 i0v3 i0h i0v5 i0w i0k i0g1 i0g2 i0g3 i0g4 i0g5) (nrm i1v0 i1v1 i1v2 i1v3 i1h i1v5 i1w i1k i1g1 i1g2 i1g3 i1g4 i1g5) (0 : Int32)) := by
  first
  | assumption
  | omega
  | (first | exact (xrs_b (Lv := (nrm i0v0 i0v1 i0v2 i0v3 i0h i0v5 i0w i0k i0g1 i0g2 i0g3 i0g4 i0g5)) (An := az) (I0 := (nrm i0v0 i0v1 i0v2 i0v3 i0h i0v5 i0w i0k i0g1 i0g2 i0g3 i0g4 i0g5)) (I1 := (nrm i1v0 i1v1 i1v2 i1v3 i1h i1v5 i1w i1k i1g1 i1g2 i1g3 i1g4 i1g5)) (Or.inl c_1)).2.1.symm | exact (xrs_b (Lv := (nrm i0v0 i0v1 i0v2 i0v3 i0h i0v5 i0w i0k i0g1 i0g2 i0g3 i0g4 i0g5)) (An := az) (I0 := (nrm i0v0 i0v1 i0v2 i0v3 i0h i0v5 i0w i0k i0g1 i0g2 i0g3 i0g4 i0g5)) (I1 := (nrm i1v0 i1v1 i1v2 i1v3 i1h i1v5 i1w i1k i1g1 i1g2 i1g3 i1g4 i1g5)) (Or.inl c_1)).2.2.symm | exact (xrs_b (Lv := (nrm nv0 nv1 nv2 nv3 nhh nv5 nww nkk ng1 ng2 ng3 ng4 ng5)) (An := az) (I0 := (nrm i0v0 i0v1 i0v2 i0v3 i0h i0v5 i0w i0k i0g1 i0g2 i0g3 i0g4 i0g5)) (I1 := (nrm i1v0 i1v1 i1v2 i1v3 i1h i1v5 i1w i1k i1g1 i1g2 i1g3 i1g4 i1g5)) (Or.inl c_1)).1.symm)
  | (first | exact (xrs_b (Lv := (nrm i0v0 i0v1 i0v2 i0v3 i0h i0v5 i0w i0k i0g1 i0g2 i0g3 i0g4 i0g5)) (An := az) (I0 := (nrm i0v0 i0v1 i0v2 i0v3 i0h i0v5 i0w i0k i0g1 i0g2 i0g3 i0g4 i0g5)) (I1 := (nrm i1v0 i1v1 i1v2 i1v3 i1h i1v5 i1w i1k i1g1 i1g2 i1g3 i1g4 i1g5)) (Or.inr c_2)).2.1.symm | exact (xrs_b (Lv := (nrm i0v0 i0v1 i0v2 i0v3 i0h i0v5 i0w i0k i0g1 i0g2 i0g3 i0g4 i0g5)) (An := az) (I0 := (nrm i0v0 i0v1 i0v2 i0v3 i0h i0v5 i0w i0k i0g1 i0g2 i0g3 i0g4 i0g5)) (I1 := (nrm i1v0 i1v1 i1v2 i1v3 i1h i1v5 i1w i1k i1g1 i1g2 i1g3 i1g4 i1g5)) (Or.inr c_2)).2.2.symm | exact (xrs_b (Lv := (nrm nv0 nv1 nv2 nv3 nhh nv5 nww nkk ng1 ng2 ng3 ng4 ng5)) (An := az) (I0 := (nrm i0v0 i0v1 i0v2 i0v3 i0h i0v5 i0w i0k i0g1 i0g2 i0g3 i0g4 i0g5)) (I1 := (nrm i1v0 i1v1 i1v2 i1v3 i1h i1v5 i1w i1k i1g1 i1g2 i1g3 i1g4 i1g5)) (Or.inr c_2)).1.symm)
  | (have y := ((tX hL0 hg1 hg2 (by omega)).1 (by assumption)).1
     first | exact (xrs_00 (Lv := (nrm i0v0 i0v1 i0v2 i0v3 i0h i0v5 i0w i0k i0g1 i0g2 i0g3 i0g4 i0g5)) (An := az) (I0 := (nrm i0v0 i0v1 i0v2 i0v3 i0h i0v5 i0w i0k i0g1 i0g2 i0g3 i0g4 i0g5)) (I1 := (nrm i1v0 i1v1 i1v2 i1v3 i1h i1v5 i1w i1k i1g1 i1g2 i1g3 i1g4 i1g5)) (nr0.trans y)).2.1.symm | exact (xrs_00 (Lv := (nrm i0v0 i0v1 i0v2 i0v3 i0h i0v5 i0w i0k i0g1 i0g2 i0g3 i0g4 i0g5)) (An := az) (I0 := (nrm i0v0 i0v1 i0v2 i0v3 i0h i0v5 i0w i0k i0g1 i0g2 i0g3 i0g4 i0g5)) (I1 := (nrm i1v0 i1v1 i1v2 i1v3 i1h i1v5 i1w i1k i1g1 i1g2 i1g3 i1g4 i1g5)) (nr0.trans y)).2.2.symm | exact (xrs_00 (Lv := (nrm nv0 nv1 nv2 nv3 nhh nv5 nww nkk ng1 ng2 ng3 ng4 ng5)) (An := az) (I0 := (nrm i0v0 i0v1 i0v2 i0v3 i0h i0v5 i0w i0k i0g1 i0g2 i0g3 i0g4 i0g5)) (I1 := (nrm i1v0 i1v1 i1v2 i1v3 i1h i1v5 i1w i1k i1g1 i1g2 i1g3 i1g4 i1g5)) (nr0.trans y)).1.symm)
  | (have y := ((tX hL1 hg4 hg5 (by omega)).1 (by assumption)).1
     first | exact (xrs_10 (Lv := (nrm i0v0 i0v1 i0v2 i0v3 i0h i0v5 i0w i0k i0g1 i0g2 i0g3 i0g4 i0g5)) (An := az) (I0 := (nrm i0v0 i0v1 i0v2 i0v3 i0h i0v5 i0w i0k i0g1 i0g2 i0g3 i0g4 i0g5)) (I1 := (nrm i1v0 i1v1 i1v2 i1v3 i1h i1v5 i1w i1k i1g1 i1g2 i1g3 i1g4 i1g5)) (nr0.trans y)).2.1.symm | exact (xrs_10 (Lv := (nrm i0v0 i0v1 i0v2 i0v3 i0h i0v5 i0w i0k i0g1 i0g2 i0g3 i0g4 i0g5)) (An := az) (I0 := (nrm i0v0 i0v1 i0v2 i0v3 i0h i0v5 i0w i0k i0g1 i0g2 i0g3 i0g4 i0g5)) (I1 := (nrm i1v0 i1v1 i1v2 i1v3 i1h i1v5 i1w i1k i1g1 i1g2 i1g3 i1g4 i1g5)) (nr0.trans y)).2.2.symm | exact (xrs_10 (Lv := (nrm nv0 nv1 nv2 nv3 nhh nv5 nww nkk ng1 ng2 ng3 ng4 ng5)) (An := az) (I0 := (nrm i0v0 i0v1 i0v2 i0v3 i0h i0v5 i0w i0k i0g1 i0g2 i0g3 i0g4 i0g5)) (I1 := (nrm i1v0 i1v1 i1v2 i1v3 i1h i1v5 i1w i1k i1g1 i1g2 i1g3 i1g4 i1g5)) (nr0.trans y)).1.symm)
  | (have y := ((tX hL0 hg1 hg2 (by omega)).2 (by assumption)).1
     first | exact (xrs_01 (Lv := (nrm i0v0 i0v1 i0v2 i0v3 i0h i0v5 i0w i0k i0g1 i0g2 i0g3 i0g4 i0g5)) (An := az) (I0 := (nrm i0v0 i0v1 i0v2 i0v3 i0h i0v5 i0w i0k i0g1 i0g2 i0g3 i0g4 i0g5)) (I1 := (nrm i1v0 i1v1 i1v2 i1v3 i1h i1v5 i1w i1k i1g1 i1g2 i1g3 i1g4 i1g5)) (by rw [nr0]; exact y)).2.1.symm | exact (xrs_01 (Lv := (nrm i0v0 i0v1 i0v2 i0v3 i0h i0v5 i0w i0k i0g1 i0g2 i0g3 i0g4 i0g5)) (An := az) (I0 := (nrm i0v0 i0v1 i0v2 i0v3 i0h i0v5 i0w i0k i0g1 i0g2 i0g3 i0g4 i0g5)) (I1 := (nrm i1v0 i1v1 i1v2 i1v3 i1h i1v5 i1w i1k i1g1 i1g2 i1g3 i1g4 i1g5)) (by rw [nr0]; exact y)).2.2.symm | exact (nr_eq hg1 hg2 (by assumption) (by assumption) (by assumption) (by assumption) (by assumption)).trans (xrs_01 (Lv := (nrm nv0 nv1 nv2 nv3 nhh nv5 nww nkk ng1 ng2 ng3 ng4 ng5)) (An := az) (I0 := (nrm i0v0 i0v1 i0v2 i0v3 i0h i0v5 i0w i0k i0g1 i0g2 i0g3 i0g4 i0g5)) (I1 := (nrm i1v0 i1v1 i1v2 i1v3 i1h i1v5 i1w i1k i1g1 i1g2 i1g3 i1g4 i1g5)) (by rw [nr0]; exact y)).1.symm)
  | (have y := ((tX hL1 hg4 hg5 (by omega)).2 (by assumption)).1
     first | exact (xrs_11 (Lv := (nrm i0v0 i0v1 i0v2 i0v3 i0h i0v5 i0w i0k i0g1 i0g2 i0g3 i0g4 i0g5)) (An := az) (I0 := (nrm i0v0 i0v1 i0v2 i0v3 i0h i0v5 i0w i0k i0g1 i0g2 i0g3 i0g4 i0g5)) (I1 := (nrm i1v0 i1v1 i1v2 i1v3 i1h i1v5 i1w i1k i1g1 i1g2 i1g3 i1g4 i1g5)) (by rw [nr0]; exact y)).2.1.symm | exact (xrs_11 (Lv := (nrm i0v0 i0v1 i0v2 i0v3 i0h i0v5 i0w i0k i0g1 i0g2 i0g3 i0g4 i0g5)) (An := az) (I0 := (nrm i0v0 i0v1 i0v2 i0v3 i0h i0v5 i0w i0k i0g1 i0g2 i0g3 i0g4 i0g5)) (I1 := (nrm i1v0 i1v1 i1v2 i1v3 i1h i1v5 i1w i1k i1g1 i1g2 i1g3 i1g4 i1g5)) (by rw [nr0]; exact y)).2.2.symm | exact (nr_eq hg4 hg5 (by assumption) (by assumption) (by assumption) (by assumption) (by assumption)).trans (xrs_11 (Lv := (nrm nv0 nv1 nv2 nv3 nhh nv5 nww nkk ng1 ng2 ng3 ng4 ng5)) (An := az) (I0 := (nrm i0v0 i0v1 i0v2 i0v3 i0h i0v5 i0w i0k i0g1 i0g2 i0g3 i0g4 i0g5)) (I1 := (nrm i1v0 i1v1 i1v2 i1v3 i1h i1v5 i1w i1k i1g1 i1g2 i1g3 i1g4 i1g5)) (by rw [nr0]; exact y)).1.symm)
theorem lf_X7_restore_15 {nhh : Nat} {nww : Nat} {nkk : Nat} {fi : Nat → Option Nat} {i0 : Nat} {i0v0 : Int32} {i0v1 : Int32} {i0v2 : Int32} {i0v3 : Int32} {i0v5 : Int32} {i0h : Nat} {i0w : Nat} {i0k : Nat} {i0g1 : Nat → Int32} {i0g2 : Nat → Int32} {i0g3 : Nat → Int32} {i0g4 : Nat → Int32} {i0g5 : Nat → Int32} {i1 : Nat} {i1v0 : Int32} {i1v1 : Int32} {i1v2 : Int32} {i1v3 : Int32} {i1v5 : Int32} {i1h : Nat} {i1w : Nat} {i1k : Nat} {i1g1 : Nat → Int32} {i1g2 : Nat → Int32} {i1g3 : Nat → Int32} {i1g4 : Nat → Int32} {i1g5 : Nat → Int32} {az : Nat} {f1n_6 : Nat → Int32} {f2n_6 : Nat → Int32} {f3n_6 : Nat → Int32} {f4n_6 : Nat → Int32} {f5n_6 : Nat → Int32} (nhb : nhh ≤ 999) (nwb : nww ≤ 6) (nkb : nkk ≤ 6) (hi0 : fi 0 = some i0) (hi1 : fi 1 = some i1) (hg0 : i0h ≤ 999) (hg1 : i0w ≤ 6) (hg2 : i0k ≤ 6) (hg3 : i1h ≤ 999) (hg4 : i1w ≤ 6) (hg5 : i1k ≤ 6) (haz : az ≤ 24) (hL0 : okLv (nrm i0v0 i0v1 i0v2 i0v3 i0h i0v5 i0w i0k i0g1 i0g2 i0g3 i0g4 i0g5)) (hL1 : okLv (nrm i1v0 i1v1 i1v2 i1v3 i1h i1v5 i1w i1k i1g1 i1g2 i1g3 i1g4 i1g5)) (c_1 : ¬ ((0 : Int32) < 0)) (c_2 : (0 : Int32) < 2) (f_3_1_0 : 0 < i0v0) (hF_6_0 : (∀ jq : Nat, jq < 6 → f1n_6 jq = i0g1 jq)) (hF_6_1 : (∀ jq : Nat, jq < 6 → f2n_6 jq = i0g2 jq)) (hF_6_2 : (∀ jq : Nat, jq < 6 → f3n_6 jq = i0g3 jq)) (hF_6_3 : (∀ jq : Nat, jq < 6 → f4n_6 jq = i0g4 jq)) (hF_6_4 : (∀ jq : Nat, jq < 6 → f5n_6 jq = i0g5 jq)) : i0h ≤ 999 := by
  first
  | assumption
  | omega
  | (first | exact (xrs_b (Lv := (nrm i0v0 i0v1 i0v2 i0v3 i0h i0v5 i0w i0k i0g1 i0g2 i0g3 i0g4 i0g5)) (An := az) (I0 := (nrm i0v0 i0v1 i0v2 i0v3 i0h i0v5 i0w i0k i0g1 i0g2 i0g3 i0g4 i0g5)) (I1 := (nrm i1v0 i1v1 i1v2 i1v3 i1h i1v5 i1w i1k i1g1 i1g2 i1g3 i1g4 i1g5)) (Or.inl c_1)).2.1.symm | exact (xrs_b (Lv := (nrm i0v0 i0v1 i0v2 i0v3 i0h i0v5 i0w i0k i0g1 i0g2 i0g3 i0g4 i0g5)) (An := az) (I0 := (nrm i0v0 i0v1 i0v2 i0v3 i0h i0v5 i0w i0k i0g1 i0g2 i0g3 i0g4 i0g5)) (I1 := (nrm i1v0 i1v1 i1v2 i1v3 i1h i1v5 i1w i1k i1g1 i1g2 i1g3 i1g4 i1g5)) (Or.inl c_1)).2.2.symm | exact (xrs_b (Lv := (nrm nv0 nv1 nv2 nv3 nhh nv5 nww nkk ng1 ng2 ng3 ng4 ng5)) (An := az) (I0 := (nrm i0v0 i0v1 i0v2 i0v3 i0h i0v5 i0w i0k i0g1 i0g2 i0g3 i0g4 i0g5)) (I1 := (nrm i1v0 i1v1 i1v2 i1v3 i1h i1v5 i1w i1k i1g1 i1g2 i1g3 i1g4 i1g5)) (Or.inl c_1)).1.symm)
  | (first | exact (xrs_b (Lv := (nrm i0v0 i0v1 i0v2 i0v3 i0h i0v5 i0w i0k i0g1 i0g2 i0g3 i0g4 i0g5)) (An := az) (I0 := (nrm i0v0 i0v1 i0v2 i0v3 i0h i0v5 i0w i0k i0g1 i0g2 i0g3 i0g4 i0g5)) (I1 := (nrm i1v0 i1v1 i1v2 i1v3 i1h i1v5 i1w i1k i1g1 i1g2 i1g3 i1g4 i1g5)) (Or.inr c_2)).2.1.symm | exact (xrs_b (Lv := (nrm i0v0 i0v1 i0v2 i0v3 i0h i0v5 i0w i0k i0g1 i0g2 i0g3 i0g4 i0g5)) (An := az) (I0 := (nrm i0v0 i0v1 i0v2 i0v3 i0h i0v5 i0w i0k i0g1 i0g2 i0g3 i0g4 i0g5)) (I1 := (nrm i1v0 i1v1 i1v2 i1v3 i1h i1v5 i1w i1k i1g1 i1g2 i1g3 i1g4 i1g5)) (Or.inr c_2)).2.2.symm | exact (xrs_b (Lv := (nrm nv0 nv1 nv2 nv3 nhh nv5 nww nkk ng1 ng2 ng3 ng4 ng5)) (An := az) (I0 := (nrm i0v0 i0v1 i0v2 i0v3 i0h i0v5 i0w i0k i0g1 i0g2 i0g3 i0g4 i0g5)) (I1 := (nrm i1v0 i1v1 i1v2 i1v3 i1h i1v5 i1w i1k i1g1 i1g2 i1g3 i1g4 i1g5)) (Or.inr c_2)).1.symm)
  | (have y := ((tX hL0 hg1 hg2 (by omega)).1 (by assumption)).1
     first | exact (xrs_00 (Lv := (nrm i0v0 i0v1 i0v2 i0v3 i0h i0v5 i0w i0k i0g1 i0g2 i0g3 i0g4 i0g5)) (An := az) (I0 := (nrm i0v0 i0v1 i0v2 i0v3 i0h i0v5 i0w i0k i0g1 i0g2 i0g3 i0g4 i0g5)) (I1 := (nrm i1v0 i1v1 i1v2 i1v3 i1h i1v5 i1w i1k i1g1 i1g2 i1g3 i1g4 i1g5)) (nr0.trans y)).2.1.symm | exact (xrs_00 (Lv := (nrm i0v0 i0v1 i0v2 i0v3 i0h i0v5 i0w i0k i0g1 i0g2 i0g3 i0g4 i0g5)) (An := az) (I0 := (nrm i0v0 i0v1 i0v2 i0v3 i0h i0v5 i0w i0k i0g1 i0g2 i0g3 i0g4 i0g5)) (I1 := (nrm i1v0 i1v1 i1v2 i1v3 i1h i1v5 i1w i1k i1g1 i1g2 i1g3 i1g4 i1g5)) (nr0.trans y)).2.2.symm | exact (xrs_00 (Lv := (nrm nv0 nv1 nv2 nv3 nhh nv5 nww nkk ng1 ng2 ng3 ng4 ng5)) (An := az) (I0 := (nrm i0v0 i0v1 i0v2 i0v3 i0h i0v5 i0w i0k i0g1 i0g2 i0g3 i0g4 i0g5)) (I1 := (nrm i1v0 i1v1 i1v2 i1v3 i1h i1v5 i1w i1k i1g1 i1g2 i1g3 i1g4 i1g5)) (nr0.trans y)).1.symm)
  | (have y := ((tX hL1 hg4 hg5 (by omega)).1 (by assumption)).1
     first | exact (xrs_10 (Lv := (nrm i0v0 i0v1 i0v2 i0v3 i0h i0v5 i0w i0k i0g1 i0g2 i0g3 i0g4 i0g5)) (An := az) (I0 := (nrm i0v0 i0v1 i0v2 i0v3 i0h i0v5 i0w i0k i0g1 i0g2 i0g3 i0g4 i0g5)) (I1 := (nrm i1v0 i1v1 i1v2 i1v3 i1h i1v5 i1w i1k i1g1 i1g2 i1g3 i1g4 i1g5)) (nr0.trans y)).2.1.symm | exact (xrs_10 (Lv := (nrm i0v0 i0v1 i0v2 i0v3 i0h i0v5 i0w i0k i0g1 i0g2 i0g3 i0g4 i0g5)) (An := az) (I0 := (nrm i0v0 i0v1 i0v2 i0v3 i0h i0v5 i0w i0k i0g1 i0g2 i0g3 i0g4 i0g5)) (I1 := (nrm i1v0 i1v1 i1v2 i1v3 i1h i1v5 i1w i1k i1g1 i1g2 i1g3 i1g4 i1g5)) (nr0.trans y)).2.2.symm | exact (xrs_10 (Lv := (nrm nv0 nv1 nv2 nv3 nhh nv5 nww nkk ng1 ng2 ng3 ng4 ng5)) (An := az) (I0 := (nrm i0v0 i0v1 i0v2 i0v3 i0h i0v5 i0w i0k i0g1 i0g2 i0g3 i0g4 i0g5)) (I1 := (nrm i1v0 i1v1 i1v2 i1v3 i1h i1v5 i1w i1k i1g1 i1g2 i1g3 i1g4 i1g5)) (nr0.trans y)).1.symm)
  | (have y := ((tX hL0 hg1 hg2 (by omega)).2 (by assumption)).1
     first | exact (xrs_01 (Lv := (nrm i0v0 i0v1 i0v2 i0v3 i0h i0v5 i0w i0k i0g1 i0g2 i0g3 i0g4 i0g5)) (An := az) (I0 := (nrm i0v0 i0v1 i0v2 i0v3 i0h i0v5 i0w i0k i0g1 i0g2 i0g3 i0g4 i0g5)) (I1 := (nrm i1v0 i1v1 i1v2 i1v3 i1h i1v5 i1w i1k i1g1 i1g2 i1g3 i1g4 i1g5)) (by rw [nr0]; exact y)).2.1.symm | exact (xrs_01 (Lv := (nrm i0v0 i0v1 i0v2 i0v3 i0h i0v5 i0w i0k i0g1 i0g2 i0g3 i0g4 i0g5)) (An := az) (I0 := (nrm i0v0 i0v1 i0v2 i0v3 i0h i0v5 i0w i0k i0g1 i0g2 i0g3 i0g4 i0g5)) (I1 := (nrm i1v0 i1v1 i1v2 i1v3 i1h i1v5 i1w i1k i1g1 i1g2 i1g3 i1g4 i1g5)) (by rw [nr0]; exact y)).2.2.symm | exact (nr_eq hg1 hg2 (by assumption) (by assumption) (by assumption) (by assumption) (by assumption)).trans (xrs_01 (Lv := (nrm nv0 nv1 nv2 nv3 nhh nv5 nww nkk ng1 ng2 ng3 ng4 ng5)) (An := az) (I0 := (nrm i0v0 i0v1 i0v2 i0v3 i0h i0v5 i0w i0k i0g1 i0g2 i0g3 i0g4 i0g5)) (I1 := (nrm i1v0 i1v1 i1v2 i1v3 i1h i1v5 i1w i1k i1g1 i1g2 i1g3 i1g4 i1g5)) (by rw [nr0]; exact y)).1.symm)
  | (have y := ((tX hL1 hg4 hg5 (by omega)).2 (by assumption)).1
     first | exact (xrs_11 (Lv := (nrm i0v0 i0v1 i0v2 i0v3 i0h i0v5 i0w i0k i0g1 i0g2 i0g3 i0g4 i0g5)) (An := az) (I0 := (nrm i0v0 i0v1 i0v2 i0v3 i0h i0v5 i0w i0k i0g1 i0g2 i0g3 i0g4 i0g5)) (I1 := (nrm i1v0 i1v1 i1v2 i1v3 i1h i1v5 i1w i1k i1g1 i1g2 i1g3 i1g4 i1g5)) (by rw [nr0]; exact y)).2.1.symm | exact (xrs_11 (Lv := (nrm i0v0 i0v1 i0v2 i0v3 i0h i0v5 i0w i0k i0g1 i0g2 i0g3 i0g4 i0g5)) (An := az) (I0 := (nrm i0v0 i0v1 i0v2 i0v3 i0h i0v5 i0w i0k i0g1 i0g2 i0g3 i0g4 i0g5)) (I1 := (nrm i1v0 i1v1 i1v2 i1v3 i1h i1v5 i1w i1k i1g1 i1g2 i1g3 i1g4 i1g5)) (by rw [nr0]; exact y)).2.2.symm | exact (nr_eq hg4 hg5 (by assumption) (by assumption) (by assumption) (by assumption) (by assumption)).trans (xrs_11 (Lv := (nrm nv0 nv1 nv2 nv3 nhh nv5 nww nkk ng1 ng2 ng3 ng4 ng5)) (An := az) (I0 := (nrm i0v0 i0v1 i0v2 i0v3 i0h i0v5 i0w i0k i0g1 i0g2 i0g3 i0g4 i0g5)) (I1 := (nrm i1v0 i1v1 i1v2 i1v3 i1h i1v5 i1w i1k i1g1 i1g2 i1g3 i1g4 i1g5)) (by rw [nr0]; exact y)).1.symm)
theorem lf_X7_restore_16 {nhh : Nat} {nww : Nat} {nkk : Nat} {fi : Nat → Option Nat} {i0 : Nat} {i0v0 : Int32} {i0v1 : Int32} {i0v2 : Int32} {i0v3 : Int32} {i0v5 : Int32} {i0h : Nat} {i0w : Nat} {i0k : Nat} {i0g1 : Nat → Int32} {i0g2 : Nat → Int32} {i0g3 : Nat → Int32} {i0g4 : Nat → Int32} {i0g5 : Nat → Int32} {i1 : Nat} {i1v0 : Int32} {i1v1 : Int32} {i1v2 : Int32} {i1v3 : Int32} {i1v5 : Int32} {i1h : Nat} {i1w : Nat} {i1k : Nat} {i1g1 : Nat → Int32} {i1g2 : Nat → Int32} {i1g3 : Nat → Int32} {i1g4 : Nat → Int32} {i1g5 : Nat → Int32} {az : Nat} {f1n_6 : Nat → Int32} {f2n_6 : Nat → Int32} {f3n_6 : Nat → Int32} {f4n_6 : Nat → Int32} {f5n_6 : Nat → Int32} (nhb : nhh ≤ 999) (nwb : nww ≤ 6) (nkb : nkk ≤ 6) (hi0 : fi 0 = some i0) (hi1 : fi 1 = some i1) (hg0 : i0h ≤ 999) (hg1 : i0w ≤ 6) (hg2 : i0k ≤ 6) (hg3 : i1h ≤ 999) (hg4 : i1w ≤ 6) (hg5 : i1k ≤ 6) (haz : az ≤ 24) (hL0 : okLv (nrm i0v0 i0v1 i0v2 i0v3 i0h i0v5 i0w i0k i0g1 i0g2 i0g3 i0g4 i0g5)) (hL1 : okLv (nrm i1v0 i1v1 i1v2 i1v3 i1h i1v5 i1w i1k i1g1 i1g2 i1g3 i1g4 i1g5)) (c_1 : ¬ ((0 : Int32) < 0)) (c_2 : (0 : Int32) < 2) (f_3_1_0 : 0 < i0v0) (hF_6_0 : (∀ jq : Nat, jq < 6 → f1n_6 jq = i0g1 jq)) (hF_6_1 : (∀ jq : Nat, jq < 6 → f2n_6 jq = i0g2 jq)) (hF_6_2 : (∀ jq : Nat, jq < 6 → f3n_6 jq = i0g3 jq)) (hF_6_3 : (∀ jq : Nat, jq < 6 → f4n_6 jq = i0g4 jq)) (hF_6_4 : (∀ jq : Nat, jq < 6 → f5n_6 jq = i0g5 jq)) : i0w ≤ 6 := by
  first
  | assumption
  | omega
  | (first | exact (xrs_b (Lv := (nrm i0v0 i0v1 i0v2 i0v3 i0h i0v5 i0w i0k i0g1 i0g2 i0g3 i0g4 i0g5)) (An := az) (I0 := (nrm i0v0 i0v1 i0v2 i0v3 i0h i0v5 i0w i0k i0g1 i0g2 i0g3 i0g4 i0g5)) (I1 := (nrm i1v0 i1v1 i1v2 i1v3 i1h i1v5 i1w i1k i1g1 i1g2 i1g3 i1g4 i1g5)) (Or.inl c_1)).2.1.symm | exact (xrs_b (Lv := (nrm i0v0 i0v1 i0v2 i0v3 i0h i0v5 i0w i0k i0g1 i0g2 i0g3 i0g4 i0g5)) (An := az) (I0 := (nrm i0v0 i0v1 i0v2 i0v3 i0h i0v5 i0w i0k i0g1 i0g2 i0g3 i0g4 i0g5)) (I1 := (nrm i1v0 i1v1 i1v2 i1v3 i1h i1v5 i1w i1k i1g1 i1g2 i1g3 i1g4 i1g5)) (Or.inl c_1)).2.2.symm | exact (xrs_b (Lv := (nrm nv0 nv1 nv2 nv3 nhh nv5 nww nkk ng1 ng2 ng3 ng4 ng5)) (An := az) (I0 := (nrm i0v0 i0v1 i0v2 i0v3 i0h i0v5 i0w i0k i0g1 i0g2 i0g3 i0g4 i0g5)) (I1 := (nrm i1v0 i1v1 i1v2 i1v3 i1h i1v5 i1w i1k i1g1 i1g2 i1g3 i1g4 i1g5)) (Or.inl c_1)).1.symm)
  | (first | exact (xrs_b (Lv := (nrm i0v0 i0v1 i0v2 i0v3 i0h i0v5 i0w i0k i0g1 i0g2 i0g3 i0g4 i0g5)) (An := az) (I0 := (nrm i0v0 i0v1 i0v2 i0v3 i0h i0v5 i0w i0k i0g1 i0g2 i0g3 i0g4 i0g5)) (I1 := (nrm i1v0 i1v1 i1v2 i1v3 i1h i1v5 i1w i1k i1g1 i1g2 i1g3 i1g4 i1g5)) (Or.inr c_2)).2.1.symm | exact (xrs_b (Lv := (nrm i0v0 i0v1 i0v2 i0v3 i0h i0v5 i0w i0k i0g1 i0g2 i0g3 i0g4 i0g5)) (An := az) (I0 := (nrm i0v0 i0v1 i0v2 i0v3 i0h i0v5 i0w i0k i0g1 i0g2 i0g3 i0g4 i0g5)) (I1 := (nrm i1v0 i1v1 i1v2 i1v3 i1h i1v5 i1w i1k i1g1 i1g2 i1g3 i1g4 i1g5)) (Or.inr c_2)).2.2.symm | exact (xrs_b (Lv := (nrm nv0 nv1 nv2 nv3 nhh nv5 nww nkk ng1 ng2 ng3 ng4 ng5)) (An := az) (I0 := (nrm i0v0 i0v1 i0v2 i0v3 i0h i0v5 i0w i0k i0g1 i0g2 i0g3 i0g4 i0g5)) (I1 := (nrm i1v0 i1v1 i1v2 i1v3 i1h i1v5 i1w i1k i1g1 i1g2 i1g3 i1g4 i1g5)) (Or.inr c_2)).1.symm)
  | (have y := ((tX hL0 hg1 hg2 (by omega)).1 (by assumption)).1
     first | exact (xrs_00 (Lv := (nrm i0v0 i0v1 i0v2 i0v3 i0h i0v5 i0w i0k i0g1 i0g2 i0g3 i0g4 i0g5)) (An := az) (I0 := (nrm i0v0 i0v1 i0v2 i0v3 i0h i0v5 i0w i0k i0g1 i0g2 i0g3 i0g4 i0g5)) (I1 := (nrm i1v0 i1v1 i1v2 i1v3 i1h i1v5 i1w i1k i1g1 i1g2 i1g3 i1g4 i1g5)) (nr0.trans y)).2.1.symm | exact (xrs_00 (Lv := (nrm i0v0 i0v1 i0v2 i0v3 i0h i0v5 i0w i0k i0g1 i0g2 i0g3 i0g4 i0g5)) (An := az) (I0 := (nrm i0v0 i0v1 i0v2 i0v3 i0h i0v5 i0w i0k i0g1 i0g2 i0g3 i0g4 i0g5)) (I1 := (nrm i1v0 i1v1 i1v2 i1v3 i1h i1v5 i1w i1k i1g1 i1g2 i1g3 i1g4 i1g5)) (nr0.trans y)).2.2.symm | exact (xrs_00 (Lv := (nrm nv0 nv1 nv2 nv3 nhh nv5 nww nkk ng1 ng2 ng3 ng4 ng5)) (An := az) (I0 := (nrm i0v0 i0v1 i0v2 i0v3 i0h i0v5 i0w i0k i0g1 i0g2 i0g3 i0g4 i0g5)) (I1 := (nrm i1v0 i1v1 i1v2 i1v3 i1h i1v5 i1w i1k i1g1 i1g2 i1g3 i1g4 i1g5)) (nr0.trans y)).1.symm)
  | (have y := ((tX hL1 hg4 hg5 (by omega)).1 (by assumption)).1
     first | exact (xrs_10 (Lv := (nrm i0v0 i0v1 i0v2 i0v3 i0h i0v5 i0w i0k i0g1 i0g2 i0g3 i0g4 i0g5)) (An := az) (I0 := (nrm i0v0 i0v1 i0v2 i0v3 i0h i0v5 i0w i0k i0g1 i0g2 i0g3 i0g4 i0g5)) (I1 := (nrm i1v0 i1v1 i1v2 i1v3 i1h i1v5 i1w i1k i1g1 i1g2 i1g3 i1g4 i1g5)) (nr0.trans y)).2.1.symm | exact (xrs_10 (Lv := (nrm i0v0 i0v1 i0v2 i0v3 i0h i0v5 i0w i0k i0g1 i0g2 i0g3 i0g4 i0g5)) (An := az) (I0 := (nrm i0v0 i0v1 i0v2 i0v3 i0h i0v5 i0w i0k i0g1 i0g2 i0g3 i0g4 i0g5)) (I1 := (nrm i1v0 i1v1 i1v2 i1v3 i1h i1v5 i1w i1k i1g1 i1g2 i1g3 i1g4 i1g5)) (nr0.trans y)).2.2.symm | exact (xrs_10 (Lv := (nrm nv0 nv1 nv2 nv3 nhh nv5 nww nkk ng1 ng2 ng3 ng4 ng5)) (An := az) (I0 := (nrm i0v0 i0v1 i0v2 i0v3 i0h i0v5 i0w i0k i0g1 i0g2 i0g3 i0g4 i0g5)) (I1 := (nrm i1v0 i1v1 i1v2 i1v3 i1h i1v5 i1w i1k i1g1 i1g2 i1g3 i1g4 i1g5)) (nr0.trans y)).1.symm)
  | (have y := ((tX hL0 hg1 hg2 (by omega)).2 (by assumption)).1
     first | exact (xrs_01 (Lv := (nrm i0v0 i0v1 i0v2 i0v3 i0h i0v5 i0w i0k i0g1 i0g2 i0g3 i0g4 i0g5)) (An := az) (I0 := (nrm i0v0 i0v1 i0v2 i0v3 i0h i0v5 i0w i0k i0g1 i0g2 i0g3 i0g4 i0g5)) (I1 := (nrm i1v0 i1v1 i1v2 i1v3 i1h i1v5 i1w i1k i1g1 i1g2 i1g3 i1g4 i1g5)) (by rw [nr0]; exact y)).2.1.symm | exact (xrs_01 (Lv := (nrm i0v0 i0v1 i0v2 i0v3 i0h i0v5 i0w i0k i0g1 i0g2 i0g3 i0g4 i0g5)) (An := az) (I0 := (nrm i0v0 i0v1 i0v2 i0v3 i0h i0v5 i0w i0k i0g1 i0g2 i0g3 i0g4 i0g5)) (I1 := (nrm i1v0 i1v1 i1v2 i1v3 i1h i1v5 i1w i1k i1g1 i1g2 i1g3 i1g4 i1g5)) (by rw [nr0]; exact y)).2.2.symm | exact (nr_eq hg1 hg2 (by assumption) (by assumption) (by assumption) (by assumption) (by assumption)).trans (xrs_01 (Lv := (nrm nv0 nv1 nv2 nv3 nhh nv5 nww nkk ng1 ng2 ng3 ng4 ng5)) (An := az) (I0 := (nrm i0v0 i0v1 i0v2 i0v3 i0h i0v5 i0w i0k i0g1 i0g2 i0g3 i0g4 i0g5)) (I1 := (nrm i1v0 i1v1 i1v2 i1v3 i1h i1v5 i1w i1k i1g1 i1g2 i1g3 i1g4 i1g5)) (by rw [nr0]; exact y)).1.symm)
  | (have y := ((tX hL1 hg4 hg5 (by omega)).2 (by assumption)).1
     first | exact (xrs_11 (Lv := (nrm i0v0 i0v1 i0v2 i0v3 i0h i0v5 i0w i0k i0g1 i0g2 i0g3 i0g4 i0g5)) (An := az) (I0 := (nrm i0v0 i0v1 i0v2 i0v3 i0h i0v5 i0w i0k i0g1 i0g2 i0g3 i0g4 i0g5)) (I1 := (nrm i1v0 i1v1 i1v2 i1v3 i1h i1v5 i1w i1k i1g1 i1g2 i1g3 i1g4 i1g5)) (by rw [nr0]; exact y)).2.1.symm | exact (xrs_11 (Lv := (nrm i0v0 i0v1 i0v2 i0v3 i0h i0v5 i0w i0k i0g1 i0g2 i0g3 i0g4 i0g5)) (An := az) (I0 := (nrm i0v0 i0v1 i0v2 i0v3 i0h i0v5 i0w i0k i0g1 i0g2 i0g3 i0g4 i0g5)) (I1 := (nrm i1v0 i1v1 i1v2 i1v3 i1h i1v5 i1w i1k i1g1 i1g2 i1g3 i1g4 i1g5)) (by rw [nr0]; exact y)).2.2.symm | exact (nr_eq hg4 hg5 (by assumption) (by assumption) (by assumption) (by assumption) (by assumption)).trans (xrs_11 (Lv := (nrm nv0 nv1 nv2 nv3 nhh nv5 nww nkk ng1 ng2 ng3 ng4 ng5)) (An := az) (I0 := (nrm i0v0 i0v1 i0v2 i0v3 i0h i0v5 i0w i0k i0g1 i0g2 i0g3 i0g4 i0g5)) (I1 := (nrm i1v0 i1v1 i1v2 i1v3 i1h i1v5 i1w i1k i1g1 i1g2 i1g3 i1g4 i1g5)) (by rw [nr0]; exact y)).1.symm)
theorem lf_X7_restore_17 {nhh : Nat} {nww : Nat} {nkk : Nat} {fi : Nat → Option Nat} {i0 : Nat} {i0v0 : Int32} {i0v1 : Int32} {i0v2 : Int32} {i0v3 : Int32} {i0v5 : Int32} {i0h : Nat} {i0w : Nat} {i0k : Nat} {i0g1 : Nat → Int32} {i0g2 : Nat → Int32} {i0g3 : Nat → Int32} {i0g4 : Nat → Int32} {i0g5 : Nat → Int32} {i1 : Nat} {i1v0 : Int32} {i1v1 : Int32} {i1v2 : Int32} {i1v3 : Int32} {i1v5 : Int32} {i1h : Nat} {i1w : Nat} {i1k : Nat} {i1g1 : Nat → Int32} {i1g2 : Nat → Int32} {i1g3 : Nat → Int32} {i1g4 : Nat → Int32} {i1g5 : Nat → Int32} {az : Nat} {f1n_6 : Nat → Int32} {f2n_6 : Nat → Int32} {f3n_6 : Nat → Int32} {f4n_6 : Nat → Int32} {f5n_6 : Nat → Int32} (nhb : nhh ≤ 999) (nwb : nww ≤ 6) (nkb : nkk ≤ 6) (hi0 : fi 0 = some i0) (hi1 : fi 1 = some i1) (hg0 : i0h ≤ 999) (hg1 : i0w ≤ 6) (hg2 : i0k ≤ 6) (hg3 : i1h ≤ 999) (hg4 : i1w ≤ 6) (hg5 : i1k ≤ 6) (haz : az ≤ 24) (hL0 : okLv (nrm i0v0 i0v1 i0v2 i0v3 i0h i0v5 i0w i0k i0g1 i0g2 i0g3 i0g4 i0g5)) (hL1 : okLv (nrm i1v0 i1v1 i1v2 i1v3 i1h i1v5 i1w i1k i1g1 i1g2 i1g3 i1g4 i1g5)) (c_1 : ¬ ((0 : Int32) < 0)) (c_2 : (0 : Int32) < 2) (f_3_1_0 : 0 < i0v0) (hF_6_0 : (∀ jq : Nat, jq < 6 → f1n_6 jq = i0g1 jq)) (hF_6_1 : (∀ jq : Nat, jq < 6 → f2n_6 jq = i0g2 jq)) (hF_6_2 : (∀ jq : Nat, jq < 6 → f3n_6 jq = i0g3 jq)) (hF_6_3 : (∀ jq : Nat, jq < 6 → f4n_6 jq = i0g4 jq)) (hF_6_4 : (∀ jq : Nat, jq < 6 → f5n_6 jq = i0g5 jq)) : i0k ≤ 6 := by
  first
  | assumption
  | omega
  | (first | exact (xrs_b (Lv := (nrm i0v0 i0v1 i0v2 i0v3 i0h i0v5 i0w i0k i0g1 i0g2 i0g3 i0g4 i0g5)) (An := az) (I0 := (nrm i0v0 i0v1 i0v2 i0v3 i0h i0v5 i0w i0k i0g1 i0g2 i0g3 i0g4 i0g5)) (I1 := (nrm i1v0 i1v1 i1v2 i1v3 i1h i1v5 i1w i1k i1g1 i1g2 i1g3 i1g4 i1g5)) (Or.inl c_1)).2.1.symm | exact (xrs_b (Lv := (nrm i0v0 i0v1 i0v2 i0v3 i0h i0v5 i0w i0k i0g1 i0g2 i0g3 i0g4 i0g5)) (An := az) (I0 := (nrm i0v0 i0v1 i0v2 i0v3 i0h i0v5 i0w i0k i0g1 i0g2 i0g3 i0g4 i0g5)) (I1 := (nrm i1v0 i1v1 i1v2 i1v3 i1h i1v5 i1w i1k i1g1 i1g2 i1g3 i1g4 i1g5)) (Or.inl c_1)).2.2.symm | exact (xrs_b (Lv := (nrm nv0 nv1 nv2 nv3 nhh nv5 nww nkk ng1 ng2 ng3 ng4 ng5)) (An := az) (I0 := (nrm i0v0 i0v1 i0v2 i0v3 i0h i0v5 i0w i0k i0g1 i0g2 i0g3 i0g4 i0g5)) (I1 := (nrm i1v0 i1v1 i1v2 i1v3 i1h i1v5 i1w i1k i1g1 i1g2 i1g3 i1g4 i1g5)) (Or.inl c_1)).1.symm)
  | (first | exact (xrs_b (Lv := (nrm i0v0 i0v1 i0v2 i0v3 i0h i0v5 i0w i0k i0g1 i0g2 i0g3 i0g4 i0g5)) (An := az) (I0 := (nrm i0v0 i0v1 i0v2 i0v3 i0h i0v5 i0w i0k i0g1 i0g2 i0g3 i0g4 i0g5)) (I1 := (nrm i1v0 i1v1 i1v2 i1v3 i1h i1v5 i1w i1k i1g1 i1g2 i1g3 i1g4 i1g5)) (Or.inr c_2)).2.1.symm | exact (xrs_b (Lv := (nrm i0v0 i0v1 i0v2 i0v3 i0h i0v5 i0w i0k i0g1 i0g2 i0g3 i0g4 i0g5)) (An := az) (I0 := (nrm i0v0 i0v1 i0v2 i0v3 i0h i0v5 i0w i0k i0g1 i0g2 i0g3 i0g4 i0g5)) (I1 := (nrm i1v0 i1v1 i1v2 i1v3 i1h i1v5 i1w i1k i1g1 i1g2 i1g3 i1g4 i1g5)) (Or.inr c_2)).2.2.symm | exact (xrs_b (Lv := (nrm nv0 nv1 nv2 nv3 nhh nv5 nww nkk ng1 ng2 ng3 ng4 ng5)) (An := az) (I0 := (nrm i0v0 i0v1 i0v2 i0v3 i0h i0v5 i0w i0k i0g1 i0g2 i0g3 i0g4 i0g5)) (I1 := (nrm i1v0 i1v1 i1v2 i1v3 i1h i1v5 i1w i1k i1g1 i1g2 i1g3 i1g4 i1g5)) (Or.inr c_2)).1.symm)
  | (have y := ((tX hL0 hg1 hg2 (by omega)).1 (by assumption)).1
     first | exact (xrs_00 (Lv := (nrm i0v0 i0v1 i0v2 i0v3 i0h i0v5 i0w i0k i0g1 i0g2 i0g3 i0g4 i0g5)) (An := az) (I0 := (nrm i0v0 i0v1 i0v2 i0v3 i0h i0v5 i0w i0k i0g1 i0g2 i0g3 i0g4 i0g5)) (I1 := (nrm i1v0 i1v1 i1v2 i1v3 i1h i1v5 i1w i1k i1g1 i1g2 i1g3 i1g4 i1g5)) (nr0.trans y)).2.1.symm | exact (xrs_00 (Lv := (nrm i0v0 i0v1 i0v2 i0v3 i0h i0v5 i0w i0k i0g1 i0g2 i0g3 i0g4 i0g5)) (An := az) (I0 := (nrm i0v0 i0v1 i0v2 i0v3 i0h i0v5 i0w i0k i0g1 i0g2 i0g3 i0g4 i0g5)) (I1 := (nrm i1v0 i1v1 i1v2 i1v3 i1h i1v5 i1w i1k i1g1 i1g2 i1g3 i1g4 i1g5)) (nr0.trans y)).2.2.symm | exact (xrs_00 (Lv := (nrm nv0 nv1 nv2 nv3 nhh nv5 nww nkk ng1 ng2 ng3 ng4 ng5)) (An := az) (I0 := (nrm i0v0 i0v1 i0v2 i0v3 i0h i0v5 i0w i0k i0g1 i0g2 i0g3 i0g4 i0g5)) (I1 := (nrm i1v0 i1v1 i1v2 i1v3 i1h i1v5 i1w i1k i1g1 i1g2 i1g3 i1g4 i1g5)) (nr0.trans y)).1.symm)
  | (have y := ((tX hL1 hg4 hg5 (by omega)).1 (by assumption)).1
     first | exact (xrs_10 (Lv := (nrm i0v0 i0v1 i0v2 i0v3 i0h i0v5 i0w i0k i0g1 i0g2 i0g3 i0g4 i0g5)) (An := az) (I0 := (nrm i0v0 i0v1 i0v2 i0v3 i0h i0v5 i0w i0k i0g1 i0g2 i0g3 i0g4 i0g5)) (I1 := (nrm i1v0 i1v1 i1v2 i1v3 i1h i1v5 i1w i1k i1g1 i1g2 i1g3 i1g4 i1g5)) (nr0.trans y)).2.1.symm | exact (xrs_10 (Lv := (nrm i0v0 i0v1 i0v2 i0v3 i0h i0v5 i0w i0k i0g1 i0g2 i0g3 i0g4 i0g5)) (An := az) (I0 := (nrm i0v0 i0v1 i0v2 i0v3 i0h i0v5 i0w i0k i0g1 i0g2 i0g3 i0g4 i0g5)) (I1 := (nrm i1v0 i1v1 i1v2 i1v3 i1h i1v5 i1w i1k i1g1 i1g2 i1g3 i1g4 i1g5)) (nr0.trans y)).2.2.symm | exact (xrs_10 (Lv := (nrm nv0 nv1 nv2 nv3 nhh nv5 nww nkk ng1 ng2 ng3 ng4 ng5)) (An := az) (I0 := (nrm i0v0 i0v1 i0v2 i0v3 i0h i0v5 i0w i0k i0g1 i0g2 i0g3 i0g4 i0g5)) (I1 := (nrm i1v0 i1v1 i1v2 i1v3 i1h i1v5 i1w i1k i1g1 i1g2 i1g3 i1g4 i1g5)) (nr0.trans y)).1.symm)
  | (have y := ((tX hL0 hg1 hg2 (by omega)).2 (by assumption)).1
     first | exact (xrs_01 (Lv := (nrm i0v0 i0v1 i0v2 i0v3 i0h i0v5 i0w i0k i0g1 i0g2 i0g3 i0g4 i0g5)) (An := az) (I0 := (nrm i0v0 i0v1 i0v2 i0v3 i0h i0v5 i0w i0k i0g1 i0g2 i0g3 i0g4 i0g5)) (I1 := (nrm i1v0 i1v1 i1v2 i1v3 i1h i1v5 i1w i1k i1g1 i1g2 i1g3 i1g4 i1g5)) (by rw [nr0]; exact y)).2.1.symm | exact (xrs_01 (Lv := (nrm i0v0 i0v1 i0v2 i0v3 i0h i0v5 i0w i0k i0g1 i0g2 i0g3 i0g4 i0g5)) (An := az) (I0 := (nrm i0v0 i0v1 i0v2 i0v3 i0h i0v5 i0w i0k i0g1 i0g2 i0g3 i0g4 i0g5)) (I1 := (nrm i1v0 i1v1 i1v2 i1v3 i1h i1v5 i1w i1k i1g1 i1g2 i1g3 i1g4 i1g5)) (by rw [nr0]; exact y)).2.2.symm | exact (nr_eq hg1 hg2 (by assumption) (by assumption) (by assumption) (by assumption) (by assumption)).trans (xrs_01 (Lv := (nrm nv0 nv1 nv2 nv3 nhh nv5 nww nkk ng1 ng2 ng3 ng4 ng5)) (An := az) (I0 := (nrm i0v0 i0v1 i0v2 i0v3 i0h i0v5 i0w i0k i0g1 i0g2 i0g3 i0g4 i0g5)) (I1 := (nrm i1v0 i1v1 i1v2 i1v3 i1h i1v5 i1w i1k i1g1 i1g2 i1g3 i1g4 i1g5)) (by rw [nr0]; exact y)).1.symm)
  | (have y := ((tX hL1 hg4 hg5 (by omega)).2 (by assumption)).1
     first | exact (xrs_11 (Lv := (nrm i0v0 i0v1 i0v2 i0v3 i0h i0v5 i0w i0k i0g1 i0g2 i0g3 i0g4 i0g5)) (An := az) (I0 := (nrm i0v0 i0v1 i0v2 i0v3 i0h i0v5 i0w i0k i0g1 i0g2 i0g3 i0g4 i0g5)) (I1 := (nrm i1v0 i1v1 i1v2 i1v3 i1h i1v5 i1w i1k i1g1 i1g2 i1g3 i1g4 i1g5)) (by rw [nr0]; exact y)).2.1.symm | exact (xrs_11 (Lv := (nrm i0v0 i0v1 i0v2 i0v3 i0h i0v5 i0w i0k i0g1 i0g2 i0g3 i0g4 i0g5)) (An := az) (I0 := (nrm i0v0 i0v1 i0v2 i0v3 i0h i0v5 i0w i0k i0g1 i0g2 i0g3 i0g4 i0g5)) (I1 := (nrm i1v0 i1v1 i1v2 i1v3 i1h i1v5 i1w i1k i1g1 i1g2 i1g3 i1g4 i1g5)) (by rw [nr0]; exact y)).2.2.symm | exact (nr_eq hg4 hg5 (by assumption) (by assumption) (by assumption) (by assumption) (by assumption)).trans (xrs_11 (Lv := (nrm nv0 nv1 nv2 nv3 nhh nv5 nww nkk ng1 ng2 ng3 ng4 ng5)) (An := az) (I0 := (nrm i0v0 i0v1 i0v2 i0v3 i0h i0v5 i0w i0k i0g1 i0g2 i0g3 i0g4 i0g5)) (I1 := (nrm i1v0 i1v1 i1v2 i1v3 i1h i1v5 i1w i1k i1g1 i1g2 i1g3 i1g4 i1g5)) (by rw [nr0]; exact y)).1.symm)
theorem lf_X7_restore_18 {nhh : Nat} {nww : Nat} {nkk : Nat} {fi : Nat → Option Nat} {i0 : Nat} {i0v0 : Int32} {i0v1 : Int32} {i0v2 : Int32} {i0v3 : Int32} {i0v5 : Int32} {i0h : Nat} {i0w : Nat} {i0k : Nat} {i0g1 : Nat → Int32} {i0g2 : Nat → Int32} {i0g3 : Nat → Int32} {i0g4 : Nat → Int32} {i0g5 : Nat → Int32} {i1 : Nat} {i1v0 : Int32} {i1v1 : Int32} {i1v2 : Int32} {i1v3 : Int32} {i1v5 : Int32} {i1h : Nat} {i1w : Nat} {i1k : Nat} {i1g1 : Nat → Int32} {i1g2 : Nat → Int32} {i1g3 : Nat → Int32} {i1g4 : Nat → Int32} {i1g5 : Nat → Int32} {az : Nat} {f1n_6 : Nat → Int32} {f2n_6 : Nat → Int32} {f3n_6 : Nat → Int32} {f4n_6 : Nat → Int32} {f5n_6 : Nat → Int32} (nhb : nhh ≤ 999) (nwb : nww ≤ 6) (nkb : nkk ≤ 6) (hi0 : fi 0 = some i0) (hi1 : fi 1 = some i1) (hg0 : i0h ≤ 999) (hg1 : i0w ≤ 6) (hg2 : i0k ≤ 6) (hg3 : i1h ≤ 999) (hg4 : i1w ≤ 6) (hg5 : i1k ≤ 6) (haz : az ≤ 24) (hL0 : okLv (nrm i0v0 i0v1 i0v2 i0v3 i0h i0v5 i0w i0k i0g1 i0g2 i0g3 i0g4 i0g5)) (hL1 : okLv (nrm i1v0 i1v1 i1v2 i1v3 i1h i1v5 i1w i1k i1g1 i1g2 i1g3 i1g4 i1g5)) (c_1 : ¬ ((0 : Int32) < 0)) (c_2 : (0 : Int32) < 2) (f_3_1_0 : 0 < i0v0) (hF_6_0 : (∀ jq : Nat, jq < 6 → f1n_6 jq = i0g1 jq)) (hF_6_1 : (∀ jq : Nat, jq < 6 → f2n_6 jq = i0g2 jq)) (hF_6_2 : (∀ jq : Nat, jq < 6 → f3n_6 jq = i0g3 jq)) (hF_6_3 : (∀ jq : Nat, jq < 6 → f4n_6 jq = i0g4 jq)) (hF_6_4 : (∀ jq : Nat, jq < 6 → f5n_6 jq = i0g5 jq)) : 0 ≤ 24 := by
  first
  | assumption
  | omega
  | (first | exact (xrs_b (Lv := (nrm i0v0 i0v1 i0v2 i0v3 i0h i0v5 i0w i0k i0g1 i0g2 i0g3 i0g4 i0g5)) (An := az) (I0 := (nrm i0v0 i0v1 i0v2 i0v3 i0h i0v5 i0w i0k i0g1 i0g2 i0g3 i0g4 i0g5)) (I1 := (nrm i1v0 i1v1 i1v2 i1v3 i1h i1v5 i1w i1k i1g1 i1g2 i1g3 i1g4 i1g5)) (Or.inl c_1)).2.1.symm | exact (xrs_b (Lv := (nrm i0v0 i0v1 i0v2 i0v3 i0h i0v5 i0w i0k i0g1 i0g2 i0g3 i0g4 i0g5)) (An := az) (I0 := (nrm i0v0 i0v1 i0v2 i0v3 i0h i0v5 i0w i0k i0g1 i0g2 i0g3 i0g4 i0g5)) (I1 := (nrm i1v0 i1v1 i1v2 i1v3 i1h i1v5 i1w i1k i1g1 i1g2 i1g3 i1g4 i1g5)) (Or.inl c_1)).2.2.symm | exact (xrs_b (Lv := (nrm nv0 nv1 nv2 nv3 nhh nv5 nww nkk ng1 ng2 ng3 ng4 ng5)) (An := az) (I0 := (nrm i0v0 i0v1 i0v2 i0v3 i0h i0v5 i0w i0k i0g1 i0g2 i0g3 i0g4 i0g5)) (I1 := (nrm i1v0 i1v1 i1v2 i1v3 i1h i1v5 i1w i1k i1g1 i1g2 i1g3 i1g4 i1g5)) (Or.inl c_1)).1.symm)
  | (first | exact (xrs_b (Lv := (nrm i0v0 i0v1 i0v2 i0v3 i0h i0v5 i0w i0k i0g1 i0g2 i0g3 i0g4 i0g5)) (An := az) (I0 := (nrm i0v0 i0v1 i0v2 i0v3 i0h i0v5 i0w i0k i0g1 i0g2 i0g3 i0g4 i0g5)) (I1 := (nrm i1v0 i1v1 i1v2 i1v3 i1h i1v5 i1w i1k i1g1 i1g2 i1g3 i1g4 i1g5)) (Or.inr c_2)).2.1.symm | exact (xrs_b (Lv := (nrm i0v0 i0v1 i0v2 i0v3 i0h i0v5 i0w i0k i0g1 i0g2 i0g3 i0g4 i0g5)) (An := az) (I0 := (nrm i0v0 i0v1 i0v2 i0v3 i0h i0v5 i0w i0k i0g1 i0g2 i0g3 i0g4 i0g5)) (I1 := (nrm i1v0 i1v1 i1v2 i1v3 i1h i1v5 i1w i1k i1g1 i1g2 i1g3 i1g4 i1g5)) (Or.inr c_2)).2.2.symm | exact (xrs_b (Lv := (nrm nv0 nv1 nv2 nv3 nhh nv5 nww nkk ng1 ng2 ng3 ng4 ng5)) (An := az) (I0 := (nrm i0v0 i0v1 i0v2 i0v3 i0h i0v5 i0w i0k i0g1 i0g2 i0g3 i0g4 i0g5)) (I1 := (nrm i1v0 i1v1 i1v2 i1v3 i1h i1v5 i1w i1k i1g1 i1g2 i1g3 i1g4 i1g5)) (Or.inr c_2)).1.symm)
  | (have y := ((tX hL0 hg1 hg2 (by omega)).1 (by assumption)).1
     first | exact (xrs_00 (Lv := (nrm i0v0 i0v1 i0v2 i0v3 i0h i0v5 i0w i0k i0g1 i0g2 i0g3 i0g4 i0g5)) (An := az) (I0 := (nrm i0v0 i0v1 i0v2 i0v3 i0h i0v5 i0w i0k i0g1 i0g2 i0g3 i0g4 i0g5)) (I1 := (nrm i1v0 i1v1 i1v2 i1v3 i1h i1v5 i1w i1k i1g1 i1g2 i1g3 i1g4 i1g5)) (nr0.trans y)).2.1.symm | exact (xrs_00 (Lv := (nrm i0v0 i0v1 i0v2 i0v3 i0h i0v5 i0w i0k i0g1 i0g2 i0g3 i0g4 i0g5)) (An := az) (I0 := (nrm i0v0 i0v1 i0v2 i0v3 i0h i0v5 i0w i0k i0g1 i0g2 i0g3 i0g4 i0g5)) (I1 := (nrm i1v0 i1v1 i1v2 i1v3 i1h i1v5 i1w i1k i1g1 i1g2 i1g3 i1g4 i1g5)) (nr0.trans y)).2.2.symm | exact (xrs_00 (Lv := (nrm nv0 nv1 nv2 nv3 nhh nv5 nww nkk ng1 ng2 ng3 ng4 ng5)) (An := az) (I0 := (nrm i0v0 i0v1 i0v2 i0v3 i0h i0v5 i0w i0k i0g1 i0g2 i0g3 i0g4 i0g5)) (I1 := (nrm i1v0 i1v1 i1v2 i1v3 i1h i1v5 i1w i1k i1g1 i1g2 i1g3 i1g4 i1g5)) (nr0.trans y)).1.symm)
  | (have y := ((tX hL1 hg4 hg5 (by omega)).1 (by assumption)).1
     first | exact (xrs_10 (Lv := (nrm i0v0 i0v1 i0v2 i0v3 i0h i0v5 i0w i0k i0g1 i0g2 i0g3 i0g4 i0g5)) (An := az) (I0 := (nrm i0v0 i0v1 i0v2 i0v3 i0h i0v5 i0w i0k i0g1 i0g2 i0g3 i0g4 i0g5)) (I1 := (nrm i1v0 i1v1 i1v2 i1v3 i1h i1v5 i1w i1k i1g1 i1g2 i1g3 i1g4 i1g5)) (nr0.trans y)).2.1.symm | exact (xrs_10 (Lv := (nrm i0v0 i0v1 i0v2 i0v3 i0h i0v5 i0w i0k i0g1 i0g2 i0g3 i0g4 i0g5)) (An := az) (I0 := (nrm i0v0 i0v1 i0v2 i0v3 i0h i0v5 i0w i0k i0g1 i0g2 i0g3 i0g4 i0g5)) (I1 := (nrm i1v0 i1v1 i1v2 i1v3 i1h i1v5 i1w i1k i1g1 i1g2 i1g3 i1g4 i1g5)) (nr0.trans y)).2.2.symm | exact (xrs_10 (Lv := (nrm nv0 nv1 nv2 nv3 nhh nv5 nww nkk ng1 ng2 ng3 ng4 ng5)) (An := az) (I0 := (nrm i0v0 i0v1 i0v2 i0v3 i0h i0v5 i0w i0k i0g1 i0g2 i0g3 i0g4 i0g5)) (I1 := (nrm i1v0 i1v1 i1v2 i1v3 i1h i1v5 i1w i1k i1g1 i1g2 i1g3 i1g4 i1g5)) (nr0.trans y)).1.symm)
  | (have y := ((tX hL0 hg1 hg2 (by omega)).2 (by assumption)).1
     first | exact (xrs_01 (Lv := (nrm i0v0 i0v1 i0v2 i0v3 i0h i0v5 i0w i0k i0g1 i0g2 i0g3 i0g4 i0g5)) (An := az) (I0 := (nrm i0v0 i0v1 i0v2 i0v3 i0h i0v5 i0w i0k i0g1 i0g2 i0g3 i0g4 i0g5)) (I1 := (nrm i1v0 i1v1 i1v2 i1v3 i1h i1v5 i1w i1k i1g1 i1g2 i1g3 i1g4 i1g5)) (by rw [nr0]; exact y)).2.1.symm | exact (xrs_01 (Lv := (nrm i0v0 i0v1 i0v2 i0v3 i0h i0v5 i0w i0k i0g1 i0g2 i0g3 i0g4 i0g5)) (An := az) (I0 := (nrm i0v0 i0v1 i0v2 i0v3 i0h i0v5 i0w i0k i0g1 i0g2 i0g3 i0g4 i0g5)) (I1 := (nrm i1v0 i1v1 i1v2 i1v3 i1h i1v5 i1w i1k i1g1 i1g2 i1g3 i1g4 i1g5)) (by rw [nr0]; exact y)).2.2.symm | exact (nr_eq hg1 hg2 (by assumption) (by assumption) (by assumption) (by assumption) (by assumption)).trans (xrs_01 (Lv := (nrm nv0 nv1 nv2 nv3 nhh nv5 nww nkk ng1 ng2 ng3 ng4 ng5)) (An := az) (I0 := (nrm i0v0 i0v1 i0v2 i0v3 i0h i0v5 i0w i0k i0g1 i0g2 i0g3 i0g4 i0g5)) (I1 := (nrm i1v0 i1v1 i1v2 i1v3 i1h i1v5 i1w i1k i1g1 i1g2 i1g3 i1g4 i1g5)) (by rw [nr0]; exact y)).1.symm)
  | (have y := ((tX hL1 hg4 hg5 (by omega)).2 (by assumption)).1
     first | exact (xrs_11 (Lv := (nrm i0v0 i0v1 i0v2 i0v3 i0h i0v5 i0w i0k i0g1 i0g2 i0g3 i0g4 i0g5)) (An := az) (I0 := (nrm i0v0 i0v1 i0v2 i0v3 i0h i0v5 i0w i0k i0g1 i0g2 i0g3 i0g4 i0g5)) (I1 := (nrm i1v0 i1v1 i1v2 i1v3 i1h i1v5 i1w i1k i1g1 i1g2 i1g3 i1g4 i1g5)) (by rw [nr0]; exact y)).2.1.symm | exact (xrs_11 (Lv := (nrm i0v0 i0v1 i0v2 i0v3 i0h i0v5 i0w i0k i0g1 i0g2 i0g3 i0g4 i0g5)) (An := az) (I0 := (nrm i0v0 i0v1 i0v2 i0v3 i0h i0v5 i0w i0k i0g1 i0g2 i0g3 i0g4 i0g5)) (I1 := (nrm i1v0 i1v1 i1v2 i1v3 i1h i1v5 i1w i1k i1g1 i1g2 i1g3 i1g4 i1g5)) (by rw [nr0]; exact y)).2.2.symm | exact (nr_eq hg4 hg5 (by assumption) (by assumption) (by assumption) (by assumption) (by assumption)).trans (xrs_11 (Lv := (nrm nv0 nv1 nv2 nv3 nhh nv5 nww nkk ng1 ng2 ng3 ng4 ng5)) (An := az) (I0 := (nrm i0v0 i0v1 i0v2 i0v3 i0h i0v5 i0w i0k i0g1 i0g2 i0g3 i0g4 i0g5)) (I1 := (nrm i1v0 i1v1 i1v2 i1v3 i1h i1v5 i1w i1k i1g1 i1g2 i1g3 i1g4 i1g5)) (by rw [nr0]; exact y)).1.symm)
theorem lf_X7_restore_19 {nv0 : Int32} {nv1 : Int32} {nv2 : Int32} {nv3 : Int32} {nv5 : Int32} {nhh : Nat} {nww : Nat} {nkk : Nat} {ng1 : Nat → Int32} {ng2 : Nat → Int32} {ng3 : Nat → Int32} {ng4 : Nat → Int32} {ng5 : Nat → Int32} {fi : Nat → Option Nat} {i0 : Nat} {i0v0 : Int32} {i0v1 : Int32} {i0v2 : Int32} {i0v3 : Int32} {i0v5 : Int32} {i0h : Nat} {i0w : Nat} {i0k : Nat} {i0g1 : Nat → Int32} {i0g2 : Nat → Int32} {i0g3 : Nat → Int32} {i0g4 : Nat → Int32} {i0g5 : Nat → Int32} {i1 : Nat} {i1v0 : Int32} {i1v1 : Int32} {i1v2 : Int32} {i1v3 : Int32} {i1v5 : Int32} {i1h : Nat} {i1w : Nat} {i1k : Nat} {i1g1 : Nat → Int32} {i1g2 : Nat → Int32} {i1g3 : Nat → Int32} {i1g4 : Nat → Int32} {i1g5 : Nat → Int32} {az : Nat} {f1n_6 : Nat → Int32} {f2n_6 : Nat → Int32} {f3n_6 : Nat → Int32} {f4n_6 : Nat → Int32} {f5n_6 : Nat → Int32} (nhb : nhh ≤ 999) (nwb : nww ≤ 6) (nkb : nkk ≤ 6) (hi0 : fi 0 = some i0) (hi1 : fi 1 = some i1) (hg0 : i0h ≤ 999) (hg1 : i0w ≤ 6) (hg2 : i0k ≤ 6) (hg3 : i1h ≤ 999) (hg4 : i1w ≤ 6) (hg5 : i1k ≤ 6) (haz : az ≤ 24) (hL0 : okLv (nrm i0v0 i0v1 i0v2 i0v3 i0h i0v5 i0w i0k i0g1 i0g2 i0g3 i0g4 i0g5)) (hL1 : okLv (nrm i1v0 i1v1 i1v2 i1v3 i1h i1v5 i1w i1k i1g1 i1g2 i1g3 i1g4 i1g5)) (c_1 : ¬ ((0 : Int32) < 0)) (c_2 : (0 : Int32) < 2) (f_3_1_0 : 0 < i0v0) (hF_6_0 : (∀ jq : Nat, jq < 6 → f1n_6 jq = i0g1 jq)) (hF_6_1 : (∀ jq : Nat, jq < 6 → f2n_6 jq = i0g2 jq)) (hF_6_2 : (∀ jq : Nat, jq < 6 → f3n_6 jq = i0g3 jq)) (hF_6_3 : (∀ jq : Nat, jq < 6 → f4n_6 jq = i0g4 jq)) (hF_6_4 : (∀ jq : Nat, jq < 6 → f5n_6 jq = i0g5 jq)) : (nrm i0v0 i0v1 i0v2 i0v3 i0h i0v5 i0w i0k f1n_6 f2n_6 f3n_6 f4n_6 f5n_6) = n_rst (nrm nv0 nv1 nv2 nv3 nhh nv5 nww nkk ng1 ng2 ng3 ng4 ng5) (nrm i0v0 i0v1 i0v2 i0v3 i0h i0v5 i0w i0k i0g1 i0g2 i0g3 i0g4 i0g5) (nrm i1v0 i1v1 i1v2 i1v3 i1h i1v5 i1w i1k i1g1 i1g2 i1g3 i1g4 i1g5) (0 : Int32) := by
  first
  | assumption
  | omega
  | (first | exact (xrs_b (Lv := (nrm i0v0 i0v1 i0v2 i0v3 i0h i0v5 i0w i0k i0g1 i0g2 i0g3 i0g4 i0g5)) (An := az) (I0 := (nrm i0v0 i0v1 i0v2 i0v3 i0h i0v5 i0w i0k i0g1 i0g2 i0g3 i0g4 i0g5)) (I1 := (nrm i1v0 i1v1 i1v2 i1v3 i1h i1v5 i1w i1k i1g1 i1g2 i1g3 i1g4 i1g5)) (Or.inl c_1)).2.1.symm | exact (xrs_b (Lv := (nrm i0v0 i0v1 i0v2 i0v3 i0h i0v5 i0w i0k i0g1 i0g2 i0g3 i0g4 i0g5)) (An := az) (I0 := (nrm i0v0 i0v1 i0v2 i0v3 i0h i0v5 i0w i0k i0g1 i0g2 i0g3 i0g4 i0g5)) (I1 := (nrm i1v0 i1v1 i1v2 i1v3 i1h i1v5 i1w i1k i1g1 i1g2 i1g3 i1g4 i1g5)) (Or.inl c_1)).2.2.symm | exact (xrs_b (Lv := (nrm nv0 nv1 nv2 nv3 nhh nv5 nww nkk ng1 ng2 ng3 ng4 ng5)) (An := az) (I0 := (nrm i0v0 i0v1 i0v2 i0v3 i0h i0v5 i0w i0k i0g1 i0g2 i0g3 i0g4 i0g5)) (I1 := (nrm i1v0 i1v1 i1v2 i1v3 i1h i1v5 i1w i1k i1g1 i1g2 i1g3 i1g4 i1g5)) (Or.inl c_1)).1.symm)
  | (first | exact (xrs_b (Lv := (nrm i0v0 i0v1 i0v2 i0v3 i0h i0v5 i0w i0k i0g1 i0g2 i0g3 i0g4 i0g5)) (An := az) (I0 := (nrm i0v0 i0v1 i0v2 i0v3 i0h i0v5 i0w i0k i0g1 i0g2 i0g3 i0g4 i0g5)) (I1 := (nrm i1v0 i1v1 i1v2 i1v3 i1h i1v5 i1w i1k i1g1 i1g2 i1g3 i1g4 i1g5)) (Or.inr c_2)).2.1.symm | exact (xrs_b (Lv := (nrm i0v0 i0v1 i0v2 i0v3 i0h i0v5 i0w i0k i0g1 i0g2 i0g3 i0g4 i0g5)) (An := az) (I0 := (nrm i0v0 i0v1 i0v2 i0v3 i0h i0v5 i0w i0k i0g1 i0g2 i0g3 i0g4 i0g5)) (I1 := (nrm i1v0 i1v1 i1v2 i1v3 i1h i1v5 i1w i1k i1g1 i1g2 i1g3 i1g4 i1g5)) (Or.inr c_2)).2.2.symm | exact (xrs_b (Lv := (nrm nv0 nv1 nv2 nv3 nhh nv5 nww nkk ng1 ng2 ng3 ng4 ng5)) (An := az) (I0 := (nrm i0v0 i0v1 i0v2 i0v3 i0h i0v5 i0w i0k i0g1 i0g2 i0g3 i0g4 i0g5)) (I1 := (nrm i1v0 i1v1 i1v2 i1v3 i1h i1v5 i1w i1k i1g1 i1g2 i1g3 i1g4 i1g5)) (Or.inr c_2)).1.symm)
  | (have y := ((tX hL0 hg1 hg2 (by omega)).1 (by assumption)).1
     first | exact (xrs_00 (Lv := (nrm i0v0 i0v1 i0v2 i0v3 i0h i0v5 i0w i0k i0g1 i0g2 i0g3 i0g4 i0g5)) (An := az) (I0 := (nrm i0v0 i0v1 i0v2 i0v3 i0h i0v5 i0w i0k i0g1 i0g2 i0g3 i0g4 i0g5)) (I1 := (nrm i1v0 i1v1 i1v2 i1v3 i1h i1v5 i1w i1k i1g1 i1g2 i1g3 i1g4 i1g5)) (nr0.trans y)).2.1.symm | exact (xrs_00 (Lv := (nrm i0v0 i0v1 i0v2 i0v3 i0h i0v5 i0w i0k i0g1 i0g2 i0g3 i0g4 i0g5)) (An := az) (I0 := (nrm i0v0 i0v1 i0v2 i0v3 i0h i0v5 i0w i0k i0g1 i0g2 i0g3 i0g4 i0g5)) (I1 := (nrm i1v0 i1v1 i1v2 i1v3 i1h i1v5 i1w i1k i1g1 i1g2 i1g3 i1g4 i1g5)) (nr0.trans y)).2.2.symm | exact (xrs_00 (Lv := (nrm nv0 nv1 nv2 nv3 nhh nv5 nww nkk ng1 ng2 ng3 ng4 ng5)) (An := az) (I0 := (nrm i0v0 i0v1 i0v2 i0v3 i0h i0v5 i0w i0k i0g1 i0g2 i0g3 i0g4 i0g5)) (I1 := (nrm i1v0 i1v1 i1v2 i1v3 i1h i1v5 i1w i1k i1g1 i1g2 i1g3 i1g4 i1g5)) (nr0.trans y)).1.symm)
  | (have y := ((tX hL1 hg4 hg5 (by omega)).1 (by assumption)).1
     first | exact (xrs_10 (Lv := (nrm i0v0 i0v1 i0v2 i0v3 i0h i0v5 i0w i0k i0g1 i0g2 i0g3 i0g4 i0g5)) (An := az) (I0 := (nrm i0v0 i0v1 i0v2 i0v3 i0h i0v5 i0w i0k i0g1 i0g2 i0g3 i0g4 i0g5)) (I1 := (nrm i1v0 i1v1 i1v2 i1v3 i1h i1v5 i1w i1k i1g1 i1g2 i1g3 i1g4 i1g5)) (nr0.trans y)).2.1.symm | exact (xrs_10 (Lv := (nrm i0v0 i0v1 i0v2 i0v3 i0h i0v5 i0w i0k i0g1 i0g2 i0g3 i0g4 i0g5)) (An := az) (I0 := (nrm i0v0 i0v1 i0v2 i0v3 i0h i0v5 i0w i0k i0g1 i0g2 i0g3 i0g4 i0g5)) (I1 := (nrm i1v0 i1v1 i1v2 i1v3 i1h i1v5 i1w i1k i1g1 i1g2 i1g3 i1g4 i1g5)) (nr0.trans y)).2.2.symm | exact (xrs_10 (Lv := (nrm nv0 nv1 nv2 nv3 nhh nv5 nww nkk ng1 ng2 ng3 ng4 ng5)) (An := az) (I0 := (nrm i0v0 i0v1 i0v2 i0v3 i0h i0v5 i0w i0k i0g1 i0g2 i0g3 i0g4 i0g5)) (I1 := (nrm i1v0 i1v1 i1v2 i1v3 i1h i1v5 i1w i1k i1g1 i1g2 i1g3 i1g4 i1g5)) (nr0.trans y)).1.symm)
  | (have y := ((tX hL0 hg1 hg2 (by omega)).2 (by assumption)).1
     first | exact (xrs_01 (Lv := (nrm i0v0 i0v1 i0v2 i0v3 i0h i0v5 i0w i0k i0g1 i0g2 i0g3 i0g4 i0g5)) (An := az) (I0 := (nrm i0v0 i0v1 i0v2 i0v3 i0h i0v5 i0w i0k i0g1 i0g2 i0g3 i0g4 i0g5)) (I1 := (nrm i1v0 i1v1 i1v2 i1v3 i1h i1v5 i1w i1k i1g1 i1g2 i1g3 i1g4 i1g5)) (by rw [nr0]; exact y)).2.1.symm | exact (xrs_01 (Lv := (nrm i0v0 i0v1 i0v2 i0v3 i0h i0v5 i0w i0k i0g1 i0g2 i0g3 i0g4 i0g5)) (An := az) (I0 := (nrm i0v0 i0v1 i0v2 i0v3 i0h i0v5 i0w i0k i0g1 i0g2 i0g3 i0g4 i0g5)) (I1 := (nrm i1v0 i1v1 i1v2 i1v3 i1h i1v5 i1w i1k i1g1 i1g2 i1g3 i1g4 i1g5)) (by rw [nr0]; exact y)).2.2.symm | exact (nr_eq hg1 hg2 (by assumption) (by assumption) (by assumption) (by assumption) (by assumption)).trans (xrs_01 (Lv := (nrm nv0 nv1 nv2 nv3 nhh nv5 nww nkk ng1 ng2 ng3 ng4 ng5)) (An := az) (I0 := (nrm i0v0 i0v1 i0v2 i0v3 i0h i0v5 i0w i0k i0g1 i0g2 i0g3 i0g4 i0g5)) (I1 := (nrm i1v0 i1v1 i1v2 i1v3 i1h i1v5 i1w i1k i1g1 i1g2 i1g3 i1g4 i1g5)) (by rw [nr0]; exact y)).1.symm)
  | (have y := ((tX hL1 hg4 hg5 (by omega)).2 (by assumption)).1
     first | exact (xrs_11 (Lv := (nrm i0v0 i0v1 i0v2 i0v3 i0h i0v5 i0w i0k i0g1 i0g2 i0g3 i0g4 i0g5)) (An := az) (I0 := (nrm i0v0 i0v1 i0v2 i0v3 i0h i0v5 i0w i0k i0g1 i0g2 i0g3 i0g4 i0g5)) (I1 := (nrm i1v0 i1v1 i1v2 i1v3 i1h i1v5 i1w i1k i1g1 i1g2 i1g3 i1g4 i1g5)) (by rw [nr0]; exact y)).2.1.symm | exact (xrs_11 (Lv := (nrm i0v0 i0v1 i0v2 i0v3 i0h i0v5 i0w i0k i0g1 i0g2 i0g3 i0g4 i0g5)) (An := az) (I0 := (nrm i0v0 i0v1 i0v2 i0v3 i0h i0v5 i0w i0k i0g1 i0g2 i0g3 i0g4 i0g5)) (I1 := (nrm i1v0 i1v1 i1v2 i1v3 i1h i1v5 i1w i1k i1g1 i1g2 i1g3 i1g4 i1g5)) (by rw [nr0]; exact y)).2.2.symm | exact (nr_eq hg4 hg5 (by assumption) (by assumption) (by assumption) (by assumption) (by assumption)).trans (xrs_11 (Lv := (nrm nv0 nv1 nv2 nv3 nhh nv5 nww nkk ng1 ng2 ng3 ng4 ng5)) (An := az) (I0 := (nrm i0v0 i0v1 i0v2 i0v3 i0h i0v5 i0w i0k i0g1 i0g2 i0g3 i0g4 i0g5)) (I1 := (nrm i1v0 i1v1 i1v2 i1v3 i1h i1v5 i1w i1k i1g1 i1g2 i1g3 i1g4 i1g5)) (by rw [nr0]; exact y)).1.symm)
theorem lf_X7_restore_20 {nhh : Nat} {nww : Nat} {nkk : Nat} {fi : Nat → Option Nat} {i0 : Nat} {i0v0 : Int32} {i0v1 : Int32} {i0v2 : Int32} {i0v3 : Int32} {i0v5 : Int32} {i0h : Nat} {i0w : Nat} {i0k : Nat} {i0g1 : Nat → Int32} {i0g2 : Nat → Int32} {i0g3 : Nat → Int32} {i0g4 : Nat → Int32} {i0g5 : Nat → Int32} {i1 : Nat} {i1v0 : Int32} {i1v1 : Int32} {i1v2 : Int32} {i1v3 : Int32} {i1v5 : Int32} {i1h : Nat} {i1w : Nat} {i1k : Nat} {i1g1 : Nat → Int32} {i1g2 : Nat → Int32} {i1g3 : Nat → Int32} {i1g4 : Nat → Int32} {i1g5 : Nat → Int32} {az : Nat} {f1n_6 : Nat → Int32} {f2n_6 : Nat → Int32} {f3n_6 : Nat → Int32} {f4n_6 : Nat → Int32} {f5n_6 : Nat → Int32} (nhb : nhh ≤ 999) (nwb : nww ≤ 6) (nkb : nkk ≤ 6) (hi0 : fi 0 = some i0) (hi1 : fi 1 = some i1) (hg0 : i0h ≤ 999) (hg1 : i0w ≤ 6) (hg2 : i0k ≤ 6) (hg3 : i1h ≤ 999) (hg4 : i1w ≤ 6) (hg5 : i1k ≤ 6) (haz : az ≤ 24) (hL0 : okLv (nrm i0v0 i0v1 i0v2 i0v3 i0h i0v5 i0w i0k i0g1 i0g2 i0g3 i0g4 i0g5)) (hL1 : okLv (nrm i1v0 i1v1 i1v2 i1v3 i1h i1v5 i1w i1k i1g1 i1g2 i1g3 i1g4 i1g5)) (c_1 : ¬ ((0 : Int32) < 0)) (c_2 : (0 : Int32) < 2) (f_3_1_0 : 0 < i0v0) (hF_6_0 : (∀ jq : Nat, jq < 6 → f1n_6 jq = i0g1 jq)) (hF_6_1 : (∀ jq : Nat, jq < 6 → f2n_6 jq = i0g2 jq)) (hF_6_2 : (∀ jq : Nat, jq < 6 → f3n_6 jq = i0g3 jq)) (hF_6_3 : (∀ jq : Nat, jq < 6 → f4n_6 jq = i0g4 jq)) (hF_6_4 : (∀ jq : Nat, jq < 6 → f5n_6 jq = i0g5 jq)) : 0 = m_rst az (nrm i0v0 i0v1 i0v2 i0v3 i0h i0v5 i0w i0k i0g1 i0g2 i0g3 i0g4 i0g5) (nrm i1v0 i1v1 i1v2 i1v3 i1h i1v5 i1w i1k i1g1 i1g2 i1g3 i1g4 i1g5) (0 : Int32) := by
  first
  | assumption
  | omega
  | (first | exact (xrs_b (Lv := (nrm i0v0 i0v1 i0v2 i0v3 i0h i0v5 i0w i0k i0g1 i0g2 i0g3 i0g4 i0g5)) (An := az) (I0 := (nrm i0v0 i0v1 i0v2 i0v3 i0h i0v5 i0w i0k i0g1 i0g2 i0g3 i0g4 i0g5)) (I1 := (nrm i1v0 i1v1 i1v2 i1v3 i1h i1v5 i1w i1k i1g1 i1g2 i1g3 i1g4 i1g5)) (Or.inl c_1)).2.1.symm | exact (xrs_b (Lv := (nrm i0v0 i0v1 i0v2 i0v3 i0h i0v5 i0w i0k i0g1 i0g2 i0g3 i0g4 i0g5)) (An := az) (I0 := (nrm i0v0 i0v1 i0v2 i0v3 i0h i0v5 i0w i0k i0g1 i0g2 i0g3 i0g4 i0g5)) (I1 := (nrm i1v0 i1v1 i1v2 i1v3 i1h i1v5 i1w i1k i1g1 i1g2 i1g3 i1g4 i1g5)) (Or.inl c_1)).2.2.symm | exact (xrs_b (Lv := (nrm nv0 nv1 nv2 nv3 nhh nv5 nww nkk ng1 ng2 ng3 ng4 ng5)) (An := az) (I0 := (nrm i0v0 i0v1 i0v2 i0v3 i0h i0v5 i0w i0k i0g1 i0g2 i0g3 i0g4 i0g5)) (I1 := (nrm i1v0 i1v1 i1v2 i1v3 i1h i1v5 i1w i1k i1g1 i1g2 i1g3 i1g4 i1g5)) (Or.inl c_1)).1.symm)
  | (first | exact (xrs_b (Lv := (nrm i0v0 i0v1 i0v2 i0v3 i0h i0v5 i0w i0k i0g1 i0g2 i0g3 i0g4 i0g5)) (An := az) (I0 := (nrm i0v0 i0v1 i0v2 i0v3 i0h i0v5 i0w i0k i0g1 i0g2 i0g3 i0g4 i0g5)) (I1 := (nrm i1v0 i1v1 i1v2 i1v3 i1h i1v5 i1w i1k i1g1 i1g2 i1g3 i1g4 i1g5)) (Or.inr c_2)).2.1.symm | exact (xrs_b (Lv := (nrm i0v0 i0v1 i0v2 i0v3 i0h i0v5 i0w i0k i0g1 i0g2 i0g3 i0g4 i0g5)) (An := az) (I0 := (nrm i0v0 i0v1 i0v2 i0v3 i0h i0v5 i0w i0k i0g1 i0g2 i0g3 i0g4 i0g5)) (I1 := (nrm i1v0 i1v1 i1v2 i1v3 i1h i1v5 i1w i1k i1g1 i1g2 i1g3 i1g4 i1g5)) (Or.inr c_2)).2.2.symm | exact (xrs_b (Lv := (nrm nv0 nv1 nv2 nv3 nhh nv5 nww nkk ng1 ng2 ng3 ng4 ng5)) (An := az) (I0 := (nrm i0v0 i0v1 i0v2 i0v3 i0h i0v5 i0w i0k i0g1 i0g2 i0g3 i0g4 i0g5)) (I1 := (nrm i1v0 i1v1 i1v2 i1v3 i1h i1v5 i1w i1k i1g1 i1g2 i1g3 i1g4 i1g5)) (Or.inr c_2)).1.symm)
  | (have y := ((tX hL0 hg1 hg2 (by omega)).1 (by assumption)).1
     first | exact (xrs_00 (Lv := (nrm i0v0 i0v1 i0v2 i0v3 i0h i0v5 i0w i0k i0g1 i0g2 i0g3 i0g4 i0g5)) (An := az) (I0 := (nrm i0v0 i0v1 i0v2 i0v3 i0h i0v5 i0w i0k i0g1 i0g2 i0g3 i0g4 i0g5)) (I1 := (nrm i1v0 i1v1 i1v2 i1v3 i1h i1v5 i1w i1k i1g1 i1g2 i1g3 i1g4 i1g5)) (nr0.trans y)).2.1.symm | exact (xrs_00 (Lv := (nrm i0v0 i0v1 i0v2 i0v3 i0h i0v5 i0w i0k i0g1 i0g2 i0g3 i0g4 i0g5)) (An := az) (I0 := (nrm i0v0 i0v1 i0v2 i0v3 i0h i0v5 i0w i0k i0g1 i0g2 i0g3 i0g4 i0g5)) (I1 := (nrm i1v0 i1v1 i1v2 i1v3 i1h i1v5 i1w i1k i1g1 i1g2 i1g3 i1g4 i1g5)) (nr0.trans y)).2.2.symm | exact (xrs_00 (Lv := (nrm nv0 nv1 nv2 nv3 nhh nv5 nww nkk ng1 ng2 ng3 ng4 ng5)) (An := az) (I0 := (nrm i0v0 i0v1 i0v2 i0v3 i0h i0v5 i0w i0k i0g1 i0g2 i0g3 i0g4 i0g5)) (I1 := (nrm i1v0 i1v1 i1v2 i1v3 i1h i1v5 i1w i1k i1g1 i1g2 i1g3 i1g4 i1g5)) (nr0.trans y)).1.symm)
  | (have y := ((tX hL1 hg4 hg5 (by omega)).1 (by assumption)).1
     first | exact (xrs_10 (Lv := (nrm i0v0 i0v1 i0v2 i0v3 i0h i0v5 i0w i0k i0g1 i0g2 i0g3 i0g4 i0g5)) (An := az) (I0 := (nrm i0v0 i0v1 i0v2 i0v3 i0h i0v5 i0w i0k i0g1 i0g2 i0g3 i0g4 i0g5)) (I1 := (nrm i1v0 i1v1 i1v2 i1v3 i1h i1v5 i1w i1k i1g1 i1g2 i1g3 i1g4 i1g5)) (nr0.trans y)).2.1.symm | exact (xrs_10 (Lv := (nrm i0v0 i0v1 i0v2 i0v3 i0h i0v5 i0w i0k i0g1 i0g2 i0g3 i0g4 i0g5)) (An := az) (I0 := (nrm i0v0 i0v1 i0v2 i0v3 i0h i0v5 i0w i0k i0g1 i0g2 i0g3 i0g4 i0g5)) (I1 := (nrm i1v0 i1v1 i1v2 i1v3 i1h i1v5 i1w i1k i1g1 i1g2 i1g3 i1g4 i1g5)) (nr0.trans y)).2.2.symm | exact (xrs_10 (Lv := (nrm nv0 nv1 nv2 nv3 nhh nv5 nww nkk ng1 ng2 ng3 ng4 ng5)) (An := az) (I0 := (nrm i0v0 i0v1 i0v2 i0v3 i0h i0v5 i0w i0k i0g1 i0g2 i0g3 i0g4 i0g5)) (I1 := (nrm i1v0 i1v1 i1v2 i1v3 i1h i1v5 i1w i1k i1g1 i1g2 i1g3 i1g4 i1g5)) (nr0.trans y)).1.symm)
  | (have y := ((tX hL0 hg1 hg2 (by omega)).2 (by assumption)).1
     first | exact (xrs_01 (Lv := (nrm i0v0 i0v1 i0v2 i0v3 i0h i0v5 i0w i0k i0g1 i0g2 i0g3 i0g4 i0g5)) (An := az) (I0 := (nrm i0v0 i0v1 i0v2 i0v3 i0h i0v5 i0w i0k i0g1 i0g2 i0g3 i0g4 i0g5)) (I1 := (nrm i1v0 i1v1 i1v2 i1v3 i1h i1v5 i1w i1k i1g1 i1g2 i1g3 i1g4 i1g5)) (by rw [nr0]; exact y)).2.1.symm | exact (xrs_01 (Lv := (nrm i0v0 i0v1 i0v2 i0v3 i0h i0v5 i0w i0k i0g1 i0g2 i0g3 i0g4 i0g5)) (An := az) (I0 := (nrm i0v0 i0v1 i0v2 i0v3 i0h i0v5 i0w i0k i0g1 i0g2 i0g3 i0g4 i0g5)) (I1 := (nrm i1v0 i1v1 i1v2 i1v3 i1h i1v5 i1w i1k i1g1 i1g2 i1g3 i1g4 i1g5)) (by rw [nr0]; exact y)).2.2.symm | exact (nr_eq hg1 hg2 (by assumption) (by assumption) (by assumption) (by assumption) (by assumption)).trans (xrs_01 (Lv := (nrm nv0 nv1 nv2 nv3 nhh nv5 nww nkk ng1 ng2 ng3 ng4 ng5)) (An := az) (I0 := (nrm i0v0 i0v1 i0v2 i0v3 i0h i0v5 i0w i0k i0g1 i0g2 i0g3 i0g4 i0g5)) (I1 := (nrm i1v0 i1v1 i1v2 i1v3 i1h i1v5 i1w i1k i1g1 i1g2 i1g3 i1g4 i1g5)) (by rw [nr0]; exact y)).1.symm)
  | (have y := ((tX hL1 hg4 hg5 (by omega)).2 (by assumption)).1
     first | exact (xrs_11 (Lv := (nrm i0v0 i0v1 i0v2 i0v3 i0h i0v5 i0w i0k i0g1 i0g2 i0g3 i0g4 i0g5)) (An := az) (I0 := (nrm i0v0 i0v1 i0v2 i0v3 i0h i0v5 i0w i0k i0g1 i0g2 i0g3 i0g4 i0g5)) (I1 := (nrm i1v0 i1v1 i1v2 i1v3 i1h i1v5 i1w i1k i1g1 i1g2 i1g3 i1g4 i1g5)) (by rw [nr0]; exact y)).2.1.symm | exact (xrs_11 (Lv := (nrm i0v0 i0v1 i0v2 i0v3 i0h i0v5 i0w i0k i0g1 i0g2 i0g3 i0g4 i0g5)) (An := az) (I0 := (nrm i0v0 i0v1 i0v2 i0v3 i0h i0v5 i0w i0k i0g1 i0g2 i0g3 i0g4 i0g5)) (I1 := (nrm i1v0 i1v1 i1v2 i1v3 i1h i1v5 i1w i1k i1g1 i1g2 i1g3 i1g4 i1g5)) (by rw [nr0]; exact y)).2.2.symm | exact (nr_eq hg4 hg5 (by assumption) (by assumption) (by assumption) (by assumption) (by assumption)).trans (xrs_11 (Lv := (nrm nv0 nv1 nv2 nv3 nhh nv5 nww nkk ng1 ng2 ng3 ng4 ng5)) (An := az) (I0 := (nrm i0v0 i0v1 i0v2 i0v3 i0h i0v5 i0w i0k i0g1 i0g2 i0g3 i0g4 i0g5)) (I1 := (nrm i1v0 i1v1 i1v2 i1v3 i1h i1v5 i1w i1k i1g1 i1g2 i1g3 i1g4 i1g5)) (by rw [nr0]; exact y)).1.symm)
theorem lf_X7_restore_21 {nhh : Nat} {nww : Nat} {nkk : Nat} {fi : Nat → Option Nat} {i0 : Nat} {i0v0 : Int32} {i0v1 : Int32} {i0v2 : Int32} {i0v3 : Int32} {i0v5 : Int32} {i0h : Nat} {i0w : Nat} {i0k : Nat} {i0g1 : Nat → Int32} {i0g2 : Nat → Int32} {i0g3 : Nat → Int32} {i0g4 : Nat → Int32} {i0g5 : Nat → Int32} {i1 : Nat} {i1v0 : Int32} {i1v1 : Int32} {i1v2 : Int32} {i1v3 : Int32} {i1v5 : Int32} {i1h : Nat} {i1w : Nat} {i1k : Nat} {i1g1 : Nat → Int32} {i1g2 : Nat → Int32} {i1g3 : Nat → Int32} {i1g4 : Nat → Int32} {i1g5 : Nat → Int32} {az : Nat} {f1n_6 : Nat → Int32} {f2n_6 : Nat → Int32} {f3n_6 : Nat → Int32} {f4n_6 : Nat → Int32} {f5n_6 : Nat → Int32} (nhb : nhh ≤ 999) (nwb : nww ≤ 6) (nkb : nkk ≤ 6) (hi0 : fi 0 = some i0) (hi1 : fi 1 = some i1) (hg0 : i0h ≤ 999) (hg1 : i0w ≤ 6) (hg2 : i0k ≤ 6) (hg3 : i1h ≤ 999) (hg4 : i1w ≤ 6) (hg5 : i1k ≤ 6) (haz : az ≤ 24) (hL0 : okLv (nrm i0v0 i0v1 i0v2 i0v3 i0h i0v5 i0w i0k i0g1 i0g2 i0g3 i0g4 i0g5)) (hL1 : okLv (nrm i1v0 i1v1 i1v2 i1v3 i1h i1v5 i1w i1k i1g1 i1g2 i1g3 i1g4 i1g5)) (c_1 : ¬ ((0 : Int32) < 0)) (c_2 : (0 : Int32) < 2) (f_3_1_0 : 0 < i0v0) (hF_6_0 : (∀ jq : Nat, jq < 6 → f1n_6 jq = i0g1 jq)) (hF_6_1 : (∀ jq : Nat, jq < 6 → f2n_6 jq = i0g2 jq)) (hF_6_2 : (∀ jq : Nat, jq < 6 → f3n_6 jq = i0g3 jq)) (hF_6_3 : (∀ jq : Nat, jq < 6 → f4n_6 jq = i0g4 jq)) (hF_6_4 : (∀ jq : Nat, jq < 6 → f5n_6 jq = i0g5 jq)) : 1 = (a_rst (nrm i0v0 i0v1 i0v2 i0v3 i0h i0v5 i0w i0k i0g1 i0g2 i0g3 i0g4 i0g5) (nrm i1v0 i1v1 i1v2 i1v3 i1h i1v5 i1w i1k i1g1 i1g2 i1g3 i1g4 i1g5) (0 : Int32)) := by
  first
  | assumption
  | omega
  | (first | exact (xrs_b (Lv := (nrm i0v0 i0v1 i0v2 i0v3 i0h i0v5 i0w i0k i0g1 i0g2 i0g3 i0g4 i0g5)) (An := az) (I0 := (nrm i0v0 i0v1 i0v2 i0v3 i0h i0v5 i0w i0k i0g1 i0g2 i0g3 i0g4 i0g5)) (I1 := (nrm i1v0 i1v1 i1v2 i1v3 i1h i1v5 i1w i1k i1g1 i1g2 i1g3 i1g4 i1g5)) (Or.inl c_1)).2.1.symm | exact (xrs_b (Lv := (nrm i0v0 i0v1 i0v2 i0v3 i0h i0v5 i0w i0k i0g1 i0g2 i0g3 i0g4 i0g5)) (An := az) (I0 := (nrm i0v0 i0v1 i0v2 i0v3 i0h i0v5 i0w i0k i0g1 i0g2 i0g3 i0g4 i0g5)) (I1 := (nrm i1v0 i1v1 i1v2 i1v3 i1h i1v5 i1w i1k i1g1 i1g2 i1g3 i1g4 i1g5)) (Or.inl c_1)).2.2.symm | exact (xrs_b (Lv := (nrm nv0 nv1 nv2 nv3 nhh nv5 nww nkk ng1 ng2 ng3 ng4 ng5)) (An := az) (I0 := (nrm i0v0 i0v1 i0v2 i0v3 i0h i0v5 i0w i0k i0g1 i0g2 i0g3 i0g4 i0g5)) (I1 := (nrm i1v0 i1v1 i1v2 i1v3 i1h i1v5 i1w i1k i1g1 i1g2 i1g3 i1g4 i1g5)) (Or.inl c_1)).1.symm)
  | (first | exact (xrs_b (Lv := (nrm i0v0 i0v1 i0v2 i0v3 i0h i0v5 i0w i0k i0g1 i0g2 i0g3 i0g4 i0g5)) (An := az) (I0 := (nrm i0v0 i0v1 i0v2 i0v3 i0h i0v5 i0w i0k i0g1 i0g2 i0g3 i0g4 i0g5)) (I1 := (nrm i1v0 i1v1 i1v2 i1v3 i1h i1v5 i1w i1k i1g1 i1g2 i1g3 i1g4 i1g5)) (Or.inr c_2)).2.1.symm | exact (xrs_b (Lv := (nrm i0v0 i0v1 i0v2 i0v3 i0h i0v5 i0w i0k i0g1 i0g2 i0g3 i0g4 i0g5)) (An := az) (I0 := (nrm i0v0 i0v1 i0v2 i0v3 i0h i0v5 i0w i0k i0g1 i0g2 i0g3 i0g4 i0g5)) (I1 := (nrm i1v0 i1v1 i1v2 i1v3 i1h i1v5 i1w i1k i1g1 i1g2 i1g3 i1g4 i1g5)) (Or.inr c_2)).2.2.symm | exact (xrs_b (Lv := (nrm nv0 nv1 nv2 nv3 nhh nv5 nww nkk ng1 ng2 ng3 ng4 ng5)) (An := az) (I0 := (nrm i0v0 i0v1 i0v2 i0v3 i0h i0v5 i0w i0k i0g1 i0g2 i0g3 i0g4 i0g5)) (I1 := (nrm i1v0 i1v1 i1v2 i1v3 i1h i1v5 i1w i1k i1g1 i1g2 i1g3 i1g4 i1g5)) (Or.inr c_2)).1.symm)
  | (have y := ((tX hL0 hg1 hg2 (by omega)).1 (by assumption)).1
     first | exact (xrs_00 (Lv := (nrm i0v0 i0v1 i0v2 i0v3 i0h i0v5 i0w i0k i0g1 i0g2 i0g3 i0g4 i0g5)) (An := az) (I0 := (nrm i0v0 i0v1 i0v2 i0v3 i0h i0v5 i0w i0k i0g1 i0g2 i0g3 i0g4 i0g5)) (I1 := (nrm i1v0 i1v1 i1v2 i1v3 i1h i1v5 i1w i1k i1g1 i1g2 i1g3 i1g4 i1g5)) (nr0.trans y)).2.1.symm | exact (xrs_00 (Lv := (nrm i0v0 i0v1 i0v2 i0v3 i0h i0v5 i0w i0k i0g1 i0g2 i0g3 i0g4 i0g5)) (An := az) (I0 := (nrm i0v0 i0v1 i0v2 i0v3 i0h i0v5 i0w i0k i0g1 i0g2 i0g3 i0g4 i0g5)) (I1 := (nrm i1v0 i1v1 i1v2 i1v3 i1h i1v5 i1w i1k i1g1 i1g2 i1g3 i1g4 i1g5)) (nr0.trans y)).2.2.symm | exact (xrs_00 (Lv := (nrm nv0 nv1 nv2 nv3 nhh nv5 nww nkk ng1 ng2 ng3 ng4 ng5)) (An := az) (I0 := (nrm i0v0 i0v1 i0v2 i0v3 i0h i0v5 i0w i0k i0g1 i0g2 i0g3 i0g4 i0g5)) (I1 := (nrm i1v0 i1v1 i1v2 i1v3 i1h i1v5 i1w i1k i1g1 i1g2 i1g3 i1g4 i1g5)) (nr0.trans y)).1.symm)
  | (have y := ((tX hL1 hg4 hg5 (by omega)).1 (by assumption)).1
     first | exact (xrs_10 (Lv := (nrm i0v0 i0v1 i0v2 i0v3 i0h i0v5 i0w i0k i0g1 i0g2 i0g3 i0g4 i0g5)) (An := az) (I0 := (nrm i0v0 i0v1 i0v2 i0v3 i0h i0v5 i0w i0k i0g1 i0g2 i0g3 i0g4 i0g5)) (I1 := (nrm i1v0 i1v1 i1v2 i1v3 i1h i1v5 i1w i1k i1g1 i1g2 i1g3 i1g4 i1g5)) (nr0.trans y)).2.1.symm | exact (xrs_10 (Lv := (nrm i0v0 i0v1 i0v2 i0v3 i0h i0v5 i0w i0k i0g1 i0g2 i0g3 i0g4 i0g5)) (An := az) (I0 := (nrm i0v0 i0v1 i0v2 i0v3 i0h i0v5 i0w i0k i0g1 i0g2 i0g3 i0g4 i0g5)) (I1 := (nrm i1v0 i1v1 i1v2 i1v3 i1h i1v5 i1w i1k i1g1 i1g2 i1g3 i1g4 i1g5)) (nr0.trans y)).2.2.symm | exact (xrs_10 (Lv := (nrm nv0 nv1 nv2 nv3 nhh nv5 nww nkk ng1 ng2 ng3 ng4 ng5)) (An := az) (I0 := (nrm i0v0 i0v1 i0v2 i0v3 i0h i0v5 i0w i0k i0g1 i0g2 i0g3 i0g4 i0g5)) (I1 := (nrm i1v0 i1v1 i1v2 i1v3 i1h i1v5 i1w i1k i1g1 i1g2 i1g3 i1g4 i1g5)) (nr0.trans y)).1.symm)
  | (have y := ((tX hL0 hg1 hg2 (by omega)).2 (by assumption)).1
     first | exact (xrs_01 (Lv := (nrm i0v0 i0v1 i0v2 i0v3 i0h i0v5 i0w i0k i0g1 i0g2 i0g3 i0g4 i0g5)) (An := az) (I0 := (nrm i0v0 i0v1 i0v2 i0v3 i0h i0v5 i0w i0k i0g1 i0g2 i0g3 i0g4 i0g5)) (I1 := (nrm i1v0 i1v1 i1v2 i1v3 i1h i1v5 i1w i1k i1g1 i1g2 i1g3 i1g4 i1g5)) (by rw [nr0]; exact y)).2.1.symm | exact (xrs_01 (Lv := (nrm i0v0 i0v1 i0v2 i0v3 i0h i0v5 i0w i0k i0g1 i0g2 i0g3 i0g4 i0g5)) (An := az) (I0 := (nrm i0v0 i0v1 i0v2 i0v3 i0h i0v5 i0w i0k i0g1 i0g2 i0g3 i0g4 i0g5)) (I1 := (nrm i1v0 i1v1 i1v2 i1v3 i1h i1v5 i1w i1k i1g1 i1g2 i1g3 i1g4 i1g5)) (by rw [nr0]; exact y)).2.2.symm | exact (nr_eq hg1 hg2 (by assumption) (by assumption) (by assumption) (by assumption) (by assumption)).trans (xrs_01 (Lv := (nrm nv0 nv1 nv2 nv3 nhh nv5 nww nkk ng1 ng2 ng3 ng4 ng5)) (An := az) (I0 := (nrm i0v0 i0v1 i0v2 i0v3 i0h i0v5 i0w i0k i0g1 i0g2 i0g3 i0g4 i0g5)) (I1 := (nrm i1v0 i1v1 i1v2 i1v3 i1h i1v5 i1w i1k i1g1 i1g2 i1g3 i1g4 i1g5)) (by rw [nr0]; exact y)).1.symm)
  | (have y := ((tX hL1 hg4 hg5 (by omega)).2 (by assumption)).1
     first | exact (xrs_11 (Lv := (nrm i0v0 i0v1 i0v2 i0v3 i0h i0v5 i0w i0k i0g1 i0g2 i0g3 i0g4 i0g5)) (An := az) (I0 := (nrm i0v0 i0v1 i0v2 i0v3 i0h i0v5 i0w i0k i0g1 i0g2 i0g3 i0g4 i0g5)) (I1 := (nrm i1v0 i1v1 i1v2 i1v3 i1h i1v5 i1w i1k i1g1 i1g2 i1g3 i1g4 i1g5)) (by rw [nr0]; exact y)).2.1.symm | exact (xrs_11 (Lv := (nrm i0v0 i0v1 i0v2 i0v3 i0h i0v5 i0w i0k i0g1 i0g2 i0g3 i0g4 i0g5)) (An := az) (I0 := (nrm i0v0 i0v1 i0v2 i0v3 i0h i0v5 i0w i0k i0g1 i0g2 i0g3 i0g4 i0g5)) (I1 := (nrm i1v0 i1v1 i1v2 i1v3 i1h i1v5 i1w i1k i1g1 i1g2 i1g3 i1g4 i1g5)) (by rw [nr0]; exact y)).2.2.symm | exact (nr_eq hg4 hg5 (by assumption) (by assumption) (by assumption) (by assumption) (by assumption)).trans (xrs_11 (Lv := (nrm nv0 nv1 nv2 nv3 nhh nv5 nww nkk ng1 ng2 ng3 ng4 ng5)) (An := az) (I0 := (nrm i0v0 i0v1 i0v2 i0v3 i0h i0v5 i0w i0k i0g1 i0g2 i0g3 i0g4 i0g5)) (I1 := (nrm i1v0 i1v1 i1v2 i1v3 i1h i1v5 i1w i1k i1g1 i1g2 i1g3 i1g4 i1g5)) (by rw [nr0]; exact y)).1.symm)
theorem lf_X7_restore_22 {nhh : Nat} {nww : Nat} {nkk : Nat} {fi : Nat → Option Nat} {i0 : Nat} {i0v0 : Int32} {i0v1 : Int32} {i0v2 : Int32} {i0v3 : Int32} {i0v5 : Int32} {i0h : Nat} {i0w : Nat} {i0k : Nat} {i0g1 : Nat → Int32} {i0g2 : Nat → Int32} {i0g3 : Nat → Int32} {i0g4 : Nat → Int32} {i0g5 : Nat → Int32} {i1 : Nat} {i1v0 : Int32} {i1v1 : Int32} {i1v2 : Int32} {i1v3 : Int32} {i1v5 : Int32} {i1h : Nat} {i1w : Nat} {i1k : Nat} {i1g1 : Nat → Int32} {i1g2 : Nat → Int32} {i1g3 : Nat → Int32} {i1g4 : Nat → Int32} {i1g5 : Nat → Int32} {az : Nat} (nhb : nhh ≤ 999) (nwb : nww ≤ 6) (nkb : nkk ≤ 6) (hi0 : fi 0 = some i0) (hi1 : fi 1 = some i1) (hg0 : i0h ≤ 999) (hg1 : i0w ≤ 6) (hg2 : i0k ≤ 6) (hg3 : i1h ≤ 999) (hg4 : i1w ≤ 6) (hg5 : i1k ≤ 6) (haz : az ≤ 24) (hL0 : okLv (nrm i0v0 i0v1 i0v2 i0v3 i0h i0v5 i0w i0k i0g1 i0g2 i0g3 i0g4 i0g5)) (hL1 : okLv (nrm i1v0 i1v1 i1v2 i1v3 i1h i1v5 i1w i1k i1g1 i1g2 i1g3 i1g4 i1g5)) (c_1 : ¬ ((1 : Int32) < 0)) (c_2 : (1 : Int32) < 2) (f_8_0_0 : ¬ 0 < i1v0) : nhh ≤ 999 := by
  first
  | assumption
  | omega
  | (first | exact (xrs_b (Lv := (nrm i0v0 i0v1 i0v2 i0v3 i0h i0v5 i0w i0k i0g1 i0g2 i0g3 i0g4 i0g5)) (An := az) (I0 := (nrm i0v0 i0v1 i0v2 i0v3 i0h i0v5 i0w i0k i0g1 i0g2 i0g3 i0g4 i0g5)) (I1 := (nrm i1v0 i1v1 i1v2 i1v3 i1h i1v5 i1w i1k i1g1 i1g2 i1g3 i1g4 i1g5)) (Or.inl c_1)).2.1.symm | exact (xrs_b (Lv := (nrm i0v0 i0v1 i0v2 i0v3 i0h i0v5 i0w i0k i0g1 i0g2 i0g3 i0g4 i0g5)) (An := az) (I0 := (nrm i0v0 i0v1 i0v2 i0v3 i0h i0v5 i0w i0k i0g1 i0g2 i0g3 i0g4 i0g5)) (I1 := (nrm i1v0 i1v1 i1v2 i1v3 i1h i1v5 i1w i1k i1g1 i1g2 i1g3 i1g4 i1g5)) (Or.inl c_1)).2.2.symm | exact (xrs_b (Lv := (nrm nv0 nv1 nv2 nv3 nhh nv5 nww nkk ng1 ng2 ng3 ng4 ng5)) (An := az) (I0 := (nrm i0v0 i0v1 i0v2 i0v3 i0h i0v5 i0w i0k i0g1 i0g2 i0g3 i0g4 i0g5)) (I1 := (nrm i1v0 i1v1 i1v2 i1v3 i1h i1v5 i1w i1k i1g1 i1g2 i1g3 i1g4 i1g5)) (Or.inl c_1)).1.symm)
  | (first | exact (xrs_b (Lv := (nrm i0v0 i0v1 i0v2 i0v3 i0h i0v5 i0w i0k i0g1 i0g2 i0g3 i0g4 i0g5)) (An := az) (I0 := (nrm i0v0 i0v1 i0v2 i0v3 i0h i0v5 i0w i0k i0g1 i0g2 i0g3 i0g4 i0g5)) (I1 := (nrm i1v0 i1v1 i1v2 i1v3 i1h i1v5 i1w i1k i1g1 i1g2 i1g3 i1g4 i1g5)) (Or.inr c_2)).2.1.symm | exact (xrs_b (Lv := (nrm i0v0 i0v1 i0v2 i0v3 i0h i0v5 i0w i0k i0g1 i0g2 i0g3 i0g4 i0g5)) (An := az) (I0 := (nrm i0v0 i0v1 i0v2 i0v3 i0h i0v5 i0w i0k i0g1 i0g2 i0g3 i0g4 i0g5)) (I1 := (nrm i1v0 i1v1 i1v2 i1v3 i1h i1v5 i1w i1k i1g1 i1g2 i1g3 i1g4 i1g5)) (Or.inr c_2)).2.2.symm | exact (xrs_b (Lv := (nrm nv0 nv1 nv2 nv3 nhh nv5 nww nkk ng1 ng2 ng3 ng4 ng5)) (An := az) (I0 := (nrm i0v0 i0v1 i0v2 i0v3 i0h i0v5 i0w i0k i0g1 i0g2 i0g3 i0g4 i0g5)) (I1 := (nrm i1v0 i1v1 i1v2 i1v3 i1h i1v5 i1w i1k i1g1 i1g2 i1g3 i1g4 i1g5)) (Or.inr c_2)).1.symm)
  | (have y := ((tX hL0 hg1 hg2 (by omega)).1 (by assumption)).1
     first | exact (xrs_00 (Lv := (nrm i0v0 i0v1 i0v2 i0v3 i0h i0v5 i0w i0k i0g1 i0g2 i0g3 i0g4 i0g5)) (An := az) (I0 := (nrm i0v0 i0v1 i0v2 i0v3 i0h i0v5 i0w i0k i0g1 i0g2 i0g3 i0g4 i0g5)) (I1 := (nrm i1v0 i1v1 i1v2 i1v3 i1h i1v5 i1w i1k i1g1 i1g2 i1g3 i1g4 i1g5)) (nr0.trans y)).2.1.symm | exact (xrs_00 (Lv := (nrm i0v0 i0v1 i0v2 i0v3 i0h i0v5 i0w i0k i0g1 i0g2 i0g3 i0g4 i0g5)) (An := az) (I0 := (nrm i0v0 i0v1 i0v2 i0v3 i0h i0v5 i0w i0k i0g1 i0g2 i0g3 i0g4 i0g5)) (I1 := (nrm i1v0 i1v1 i1v2 i1v3 i1h i1v5 i1w i1k i1g1 i1g2 i1g3 i1g4 i1g5)) (nr0.trans y)).2.2.symm | exact (xrs_00 (Lv := (nrm nv0 nv1 nv2 nv3 nhh nv5 nww nkk ng1 ng2 ng3 ng4 ng5)) (An := az) (I0 := (nrm i0v0 i0v1 i0v2 i0v3 i0h i0v5 i0w i0k i0g1 i0g2 i0g3 i0g4 i0g5)) (I1 := (nrm i1v0 i1v1 i1v2 i1v3 i1h i1v5 i1w i1k i1g1 i1g2 i1g3 i1g4 i1g5)) (nr0.trans y)).1.symm)
  | (have y := ((tX hL1 hg4 hg5 (by omega)).1 (by assumption)).1
     first | exact (xrs_10 (Lv := (nrm i0v0 i0v1 i0v2 i0v3 i0h i0v5 i0w i0k i0g1 i0g2 i0g3 i0g4 i0g5)) (An := az) (I0 := (nrm i0v0 i0v1 i0v2 i0v3 i0h i0v5 i0w i0k i0g1 i0g2 i0g3 i0g4 i0g5)) (I1 := (nrm i1v0 i1v1 i1v2 i1v3 i1h i1v5 i1w i1k i1g1 i1g2 i1g3 i1g4 i1g5)) (nr0.trans y)).2.1.symm | exact (xrs_10 (Lv := (nrm i0v0 i0v1 i0v2 i0v3 i0h i0v5 i0w i0k i0g1 i0g2 i0g3 i0g4 i0g5)) (An := az) (I0 := (nrm i0v0 i0v1 i0v2 i0v3 i0h i0v5 i0w i0k i0g1 i0g2 i0g3 i0g4 i0g5)) (I1 := (nrm i1v0 i1v1 i1v2 i1v3 i1h i1v5 i1w i1k i1g1 i1g2 i1g3 i1g4 i1g5)) (nr0.trans y)).2.2.symm | exact (xrs_10 (Lv := (nrm nv0 nv1 nv2 nv3 nhh nv5 nww nkk ng1 ng2 ng3 ng4 ng5)) (An := az) (I0 := (nrm i0v0 i0v1 i0v2 i0v3 i0h i0v5 i0w i0k i0g1 i0g2 i0g3 i0g4 i0g5)) (I1 := (nrm i1v0 i1v1 i1v2 i1v3 i1h i1v5 i1w i1k i1g1 i1g2 i1g3 i1g4 i1g5)) (nr0.trans y)).1.symm)
  | (have y := ((tX hL0 hg1 hg2 (by omega)).2 (by assumption)).1
     first | exact (xrs_01 (Lv := (nrm i0v0 i0v1 i0v2 i0v3 i0h i0v5 i0w i0k i0g1 i0g2 i0g3 i0g4 i0g5)) (An := az) (I0 := (nrm i0v0 i0v1 i0v2 i0v3 i0h i0v5 i0w i0k i0g1 i0g2 i0g3 i0g4 i0g5)) (I1 := (nrm i1v0 i1v1 i1v2 i1v3 i1h i1v5 i1w i1k i1g1 i1g2 i1g3 i1g4 i1g5)) (by rw [nr0]; exact y)).2.1.symm | exact (xrs_01 (Lv := (nrm i0v0 i0v1 i0v2 i0v3 i0h i0v5 i0w i0k i0g1 i0g2 i0g3 i0g4 i0g5)) (An := az) (I0 := (nrm i0v0 i0v1 i0v2 i0v3 i0h i0v5 i0w i0k i0g1 i0g2 i0g3 i0g4 i0g5)) (I1 := (nrm i1v0 i1v1 i1v2 i1v3 i1h i1v5 i1w i1k i1g1 i1g2 i1g3 i1g4 i1g5)) (by rw [nr0]; exact y)).2.2.symm | exact (nr_eq hg1 hg2 (by assumption) (by assumption) (by assumption) (by assumption) (by assumption)).trans (xrs_01 (Lv := (nrm nv0 nv1 nv2 nv3 nhh nv5 nww nkk ng1 ng2 ng3 ng4 ng5)) (An := az) (I0 := (nrm i0v0 i0v1 i0v2 i0v3 i0h i0v5 i0w i0k i0g1 i0g2 i0g3 i0g4 i0g5)) (I1 := (nrm i1v0 i1v1 i1v2 i1v3 i1h i1v5 i1w i1k i1g1 i1g2 i1g3 i1g4 i1g5)) (by rw [nr0]; exact y)).1.symm)
  | (have y := ((tX hL1 hg4 hg5 (by omega)).2 (by assumption)).1
     first | exact (xrs_11 (Lv := (nrm i0v0 i0v1 i0v2 i0v3 i0h i0v5 i0w i0k i0g1 i0g2 i0g3 i0g4 i0g5)) (An := az) (I0 := (nrm i0v0 i0v1 i0v2 i0v3 i0h i0v5 i0w i0k i0g1 i0g2 i0g3 i0g4 i0g5)) (I1 := (nrm i1v0 i1v1 i1v2 i1v3 i1h i1v5 i1w i1k i1g1 i1g2 i1g3 i1g4 i1g5)) (by rw [nr0]; exact y)).2.1.symm | exact (xrs_11 (Lv := (nrm i0v0 i0v1 i0v2 i0v3 i0h i0v5 i0w i0k i0g1 i0g2 i0g3 i0g4 i0g5)) (An := az) (I0 := (nrm i0v0 i0v1 i0v2 i0v3 i0h i0v5 i0w i0k i0g1 i0g2 i0g3 i0g4 i0g5)) (I1 := (nrm i1v0 i1v1 i1v2 i1v3 i1h i1v5 i1w i1k i1g1 i1g2 i1g3 i1g4 i1g5)) (by rw [nr0]; exact y)).2.2.symm | exact (nr_eq hg4 hg5 (by assumption) (by assumption) (by assumption) (by assumption) (by assumption)).trans (xrs_11 (Lv := (nrm nv0 nv1 nv2 nv3 nhh nv5 nww nkk ng1 ng2 ng3 ng4 ng5)) (An := az) (I0 := (nrm i0v0 i0v1 i0v2 i0v3 i0h i0v5 i0w i0k i0g1 i0g2 i0g3 i0g4 i0g5)) (I1 := (nrm i1v0 i1v1 i1v2 i1v3 i1h i1v5 i1w i1k i1g1 i1g2 i1g3 i1g4 i1g5)) (by rw [nr0]; exact y)).1.symm)
theorem lf_X7_restore_23 {nhh : Nat} {nww : Nat} {nkk : Nat} {fi : Nat → Option Nat} {i0 : Nat} {i0v0 : Int32} {i0v1 : Int32} {i0v2 : Int32} {i0v3 : Int32} {i0v5 : Int32} {i0h : Nat} {i0w : Nat} {i0k : Nat} {i0g1 : Nat → Int32} {i0g2 : Nat → Int32} {i0g3 : Nat → Int32} {i0g4 : Nat → Int32} {i0g5 : Nat → Int32} {i1 : Nat} {i1v0 : Int32} {i1v1 : Int32} {i1v2 : Int32} {i1v3 : Int32} {i1v5 : Int32} {i1h : Nat} {i1w : Nat} {i1k : Nat} {i1g1 : Nat → Int32} {i1g2 : Nat → Int32} {i1g3 : Nat → Int32} {i1g4 : Nat → Int32} {i1g5 : Nat → Int32} {az : Nat} (nhb : nhh ≤ 999) (nwb : nww ≤ 6) (nkb : nkk ≤ 6) (hi0 : fi 0 = some i0) (hi1 : fi 1 = some i1) (hg0 : i0h ≤ 999) (hg1 : i0w ≤ 6) (hg2 : i0k ≤ 6) (hg3 : i1h ≤ 999) (hg4 : i1w ≤ 6) (hg5 : i1k ≤ 6) (haz : az ≤ 24) (hL0 : okLv (nrm i0v0 i0v1 i0v2 i0v3 i0h i0v5 i0w i0k i0g1 i0g2 i0g3 i0g4 i0g5)) (hL1 : okLv (nrm i1v0 i1v1 i1v2 i1v3 i1h i1v5 i1w i1k i1g1 i1g2 i1g3 i1g4 i1g5)) (c_1 : ¬ ((1 : Int32) < 0)) (c_2 : (1 : Int32) < 2) (f_8_0_0 : ¬ 0 < i1v0) : nww ≤ 6 := by
  first
  | assumption
  | omega
  | (first | exact (xrs_b (Lv := (nrm i0v0 i0v1 i0v2 i0v3 i0h i0v5 i0w i0k i0g1 i0g2 i0g3 i0g4 i0g5)) (An := az) (I0 := (nrm i0v0 i0v1 i0v2 i0v3 i0h i0v5 i0w i0k i0g1 i0g2 i0g3 i0g4 i0g5)) (I1 := (nrm i1v0 i1v1 i1v2 i1v3 i1h i1v5 i1w i1k i1g1 i1g2 i1g3 i1g4 i1g5)) (Or.inl c_1)).2.1.symm | exact (xrs_b (Lv := (nrm i0v0 i0v1 i0v2 i0v3 i0h i0v5 i0w i0k i0g1 i0g2 i0g3 i0g4 i0g5)) (An := az) (I0 := (nrm i0v0 i0v1 i0v2 i0v3 i0h i0v5 i0w i0k i0g1 i0g2 i0g3 i0g4 i0g5)) (I1 := (nrm i1v0 i1v1 i1v2 i1v3 i1h i1v5 i1w i1k i1g1 i1g2 i1g3 i1g4 i1g5)) (Or.inl c_1)).2.2.symm | exact (xrs_b (Lv := (nrm nv0 nv1 nv2 nv3 nhh nv5 nww nkk ng1 ng2 ng3 ng4 ng5)) (An := az) (I0 := (nrm i0v0 i0v1 i0v2 i0v3 i0h i0v5 i0w i0k i0g1 i0g2 i0g3 i0g4 i0g5)) (I1 := (nrm i1v0 i1v1 i1v2 i1v3 i1h i1v5 i1w i1k i1g1 i1g2 i1g3 i1g4 i1g5)) (Or.inl c_1)).1.symm)
  | (first | exact (xrs_b (Lv := (nrm i0v0 i0v1 i0v2 i0v3 i0h i0v5 i0w i0k i0g1 i0g2 i0g3 i0g4 i0g5)) (An := az) (I0 := (nrm i0v0 i0v1 i0v2 i0v3 i0h i0v5 i0w i0k i0g1 i0g2 i0g3 i0g4 i0g5)) (I1 := (nrm i1v0 i1v1 i1v2 i1v3 i1h i1v5 i1w i1k i1g1 i1g2 i1g3 i1g4 i1g5)) (Or.inr c_2)).2.1.symm | exact (xrs_b (Lv := (nrm i0v0 i0v1 i0v2 i0v3 i0h i0v5 i0w i0k i0g1 i0g2 i0g3 i0g4 i0g5)) (An := az) (I0 := (nrm i0v0 i0v1 i0v2 i0v3 i0h i0v5 i0w i0k i0g1 i0g2 i0g3 i0g4 i0g5)) (I1 := (nrm i1v0 i1v1 i1v2 i1v3 i1h i1v5 i1w i1k i1g1 i1g2 i1g3 i1g4 i1g5)) (Or.inr c_2)).2.2.symm | exact (xrs_b (Lv := (nrm nv0 nv1 nv2 nv3 nhh nv5 nww nkk ng1 ng2 ng3 ng4 ng5)) (An := az) (I0 := (nrm i0v0 i0v1 i0v2 i0v3 i0h i0v5 i0w i0k i0g1 i0g2 i0g3 i0g4 i0g5)) (I1 := (nrm i1v0 i1v1 i1v2 i1v3 i1h i1v5 i1w i1k i1g1 i1g2 i1g3 i1g4 i1g5)) (Or.inr c_2)).1.symm)
  | (have y := ((tX hL0 hg1 hg2 (by omega)).1 (by assumption)).1
     first | exact (xrs_00 (Lv := (nrm i0v0 i0v1 i0v2 i0v3 i0h i0v5 i0w i0k i0g1 i0g2 i0g3 i0g4 i0g5)) (An := az) (I0 := (nrm i0v0 i0v1 i0v2 i0v3 i0h i0v5 i0w i0k i0g1 i0g2 i0g3 i0g4 i0g5)) (I1 := (nrm i1v0 i1v1 i1v2 i1v3 i1h i1v5 i1w i1k i1g1 i1g2 i1g3 i1g4 i1g5)) (nr0.trans y)).2.1.symm | exact (xrs_00 (Lv := (nrm i0v0 i0v1 i0v2 i0v3 i0h i0v5 i0w i0k i0g1 i0g2 i0g3 i0g4 i0g5)) (An := az) (I0 := (nrm i0v0 i0v1 i0v2 i0v3 i0h i0v5 i0w i0k i0g1 i0g2 i0g3 i0g4 i0g5)) (I1 := (nrm i1v0 i1v1 i1v2 i1v3 i1h i1v5 i1w i1k i1g1 i1g2 i1g3 i1g4 i1g5)) (nr0.trans y)).2.2.symm | exact (xrs_00 (Lv := (nrm nv0 nv1 nv2 nv3 nhh nv5 nww nkk ng1 ng2 ng3 ng4 ng5)) (An := az) (I0 := (nrm i0v0 i0v1 i0v2 i0v3 i0h i0v5 i0w i0k i0g1 i0g2 i0g3 i0g4 i0g5)) (I1 := (nrm i1v0 i1v1 i1v2 i1v3 i1h i1v5 i1w i1k i1g1 i1g2 i1g3 i1g4 i1g5)) (nr0.trans y)).1.symm)
  | (have y := ((tX hL1 hg4 hg5 (by omega)).1 (by assumption)).1
     first | exact (xrs_10 (Lv := (nrm i0v0 i0v1 i0v2 i0v3 i0h i0v5 i0w i0k i0g1 i0g2 i0g3 i0g4 i0g5)) (An := az) (I0 := (nrm i0v0 i0v1 i0v2 i0v3 i0h i0v5 i0w i0k i0g1 i0g2 i0g3 i0g4 i0g5)) (I1 := (nrm i1v0 i1v1 i1v2 i1v3 i1h i1v5 i1w i1k i1g1 i1g2 i1g3 i1g4 i1g5)) (nr0.trans y)).2.1.symm | exact (xrs_10 (Lv := (nrm i0v0 i0v1 i0v2 i0v3 i0h i0v5 i0w i0k i0g1 i0g2 i0g3 i0g4 i0g5)) (An := az) (I0 := (nrm i0v0 i0v1 i0v2 i0v3 i0h i0v5 i0w i0k i0g1 i0g2 i0g3 i0g4 i0g5)) (I1 := (nrm i1v0 i1v1 i1v2 i1v3 i1h i1v5 i1w i1k i1g1 i1g2 i1g3 i1g4 i1g5)) (nr0.trans y)).2.2.symm | exact (xrs_10 (Lv := (nrm nv0 nv1 nv2 nv3 nhh nv5 nww nkk ng1 ng2 ng3 ng4 ng5)) (An := az) (I0 := (nrm i0v0 i0v1 i0v2 i0v3 i0h i0v5 i0w i0k i0g1 i0g2 i0g3 i0g4 i0g5)) (I1 := (nrm i1v0 i1v1 i1v2 i1v3 i1h i1v5 i1w i1k i1g1 i1g2 i1g3 i1g4 i1g5)) (nr0.trans y)).1.symm)
  | (have y := ((tX hL0 hg1 hg2 (by omega)).2 (by assumption)).1
     first | exact (xrs_01 (Lv := (nrm i0v0 i0v1 i0v2 i0v3 i0h i0v5 i0w i0k i0g1 i0g2 i0g3 i0g4 i0g5)) (An := az) (I0 := (nrm i0v0 i0v1 i0v2 i0v3 i0h i0v5 i0w i0k i0g1 i0g2 i0g3 i0g4 i0g5)) (I1 := (nrm i1v0 i1v1 i1v2 i1v3 i1h i1v5 i1w i1k i1g1 i1g2 i1g3 i1g4 i1g5)) (by rw [nr0]; exact y)).2.1.symm | exact (xrs_01 (Lv := (nrm i0v0 i0v1 i0v2 i0v3 i0h i0v5 i0w i0k i0g1 i0g2 i0g3 i0g4 i0g5)) (An := az) (I0 := (nrm i0v0 i0v1 i0v2 i0v3 i0h i0v5 i0w i0k i0g1 i0g2 i0g3 i0g4 i0g5)) (I1 := (nrm i1v0 i1v1 i1v2 i1v3 i1h i1v5 i1w i1k i1g1 i1g2 i1g3 i1g4 i1g5)) (by rw [nr0]; exact y)).2.2.symm | exact (nr_eq hg1 hg2 (by assumption) (by assumption) (by assumption) (by assumption) (by assumption)).trans (xrs_01 (Lv := (nrm nv0 nv1 nv2 nv3 nhh nv5 nww nkk ng1 ng2 ng3 ng4 ng5)) (An := az) (I0 := (nrm i0v0 i0v1 i0v2 i0v3 i0h i0v5 i0w i0k i0g1 i0g2 i0g3 i0g4 i0g5)) (I1 := (nrm i1v0 i1v1 i1v2 i1v3 i1h i1v5 i1w i1k i1g1 i1g2 i1g3 i1g4 i1g5)) (by rw [nr0]; exact y)).1.symm)
  | (have y := ((tX hL1 hg4 hg5 (by omega)).2 (by assumption)).1
     first | exact (xrs_11 (Lv := (nrm i0v0 i0v1 i0v2 i0v3 i0h i0v5 i0w i0k i0g1 i0g2 i0g3 i0g4 i0g5)) (An := az) (I0 := (nrm i0v0 i0v1 i0v2 i0v3 i0h i0v5 i0w i0k i0g1 i0g2 i0g3 i0g4 i0g5)) (I1 := (nrm i1v0 i1v1 i1v2 i1v3 i1h i1v5 i1w i1k i1g1 i1g2 i1g3 i1g4 i1g5)) (by rw [nr0]; exact y)).2.1.symm | exact (xrs_11 (Lv := (nrm i0v0 i0v1 i0v2 i0v3 i0h i0v5 i0w i0k i0g1 i0g2 i0g3 i0g4 i0g5)) (An := az) (I0 := (nrm i0v0 i0v1 i0v2 i0v3 i0h i0v5 i0w i0k i0g1 i0g2 i0g3 i0g4 i0g5)) (I1 := (nrm i1v0 i1v1 i1v2 i1v3 i1h i1v5 i1w i1k i1g1 i1g2 i1g3 i1g4 i1g5)) (by rw [nr0]; exact y)).2.2.symm | exact (nr_eq hg4 hg5 (by assumption) (by assumption) (by assumption) (by assumption) (by assumption)).trans (xrs_11 (Lv := (nrm nv0 nv1 nv2 nv3 nhh nv5 nww nkk ng1 ng2 ng3 ng4 ng5)) (An := az) (I0 := (nrm i0v0 i0v1 i0v2 i0v3 i0h i0v5 i0w i0k i0g1 i0g2 i0g3 i0g4 i0g5)) (I1 := (nrm i1v0 i1v1 i1v2 i1v3 i1h i1v5 i1w i1k i1g1 i1g2 i1g3 i1g4 i1g5)) (by rw [nr0]; exact y)).1.symm)
theorem lf_X7_restore_24 {nhh : Nat} {nww : Nat} {nkk : Nat} {fi : Nat → Option Nat} {i0 : Nat} {i0v0 : Int32} {i0v1 : Int32} {i0v2 : Int32} {i0v3 : Int32} {i0v5 : Int32} {i0h : Nat} {i0w : Nat} {i0k : Nat} {i0g1 : Nat → Int32} {i0g2 : Nat → Int32} {i0g3 : Nat → Int32} {i0g4 : Nat → Int32} {i0g5 : Nat → Int32} {i1 : Nat} {i1v0 : Int32} {i1v1 : Int32} {i1v2 : Int32} {i1v3 : Int32} {i1v5 : Int32} {i1h : Nat} {i1w : Nat} {i1k : Nat} {i1g1 : Nat → Int32} {i1g2 : Nat → Int32} {i1g3 : Nat → Int32} {i1g4 : Nat → Int32} {i1g5 : Nat → Int32} {az : Nat} (nhb : nhh ≤ 999) (nwb : nww ≤ 6) (nkb : nkk ≤ 6) (hi0 : fi 0 = some i0) (hi1 : fi 1 = some i1) (hg0 : i0h ≤ 999) (hg1 : i0w ≤ 6) (hg2 : i0k ≤ 6) (hg3 : i1h ≤ 999) (hg4 : i1w ≤ 6) (hg5 : i1k ≤ 6) (haz : az ≤ 24) (hL0 : okLv (nrm i0v0 i0v1 i0v2 i0v3 i0h i0v5 i0w i0k i0g1 i0g2 i0g3 i0g4 i0g5)) (hL1 : okLv (nrm i1v0 i1v1 i1v2 i1v3 i1h i1v5 i1w i1k i1g1 i1g2 i1g3 i1g4 i1g5)) (c_1 : ¬ ((1 : Int32) < 0)) (c_2 : (1 : Int32) < 2) (f_8_0_0 : ¬ 0 < i1v0) : nkk ≤ 6 := by
  first
  | assumption
  | omega
  | (first | exact (xrs_b (Lv := (nrm i0v0 i0v1 i0v2 i0v3 i0h i0v5 i0w i0k i0g1 i0g2 i0g3 i0g4 i0g5)) (An := az) (I0 := (nrm i0v0 i0v1 i0v2 i0v3 i0h i0v5 i0w i0k i0g1 i0g2 i0g3 i0g4 i0g5)) (I1 := (nrm i1v0 i1v1 i1v2 i1v3 i1h i1v5 i1w i1k i1g1 i1g2 i1g3 i1g4 i1g5)) (Or.inl c_1)).2.1.symm | exact (xrs_b (Lv := (nrm i0v0 i0v1 i0v2 i0v3 i0h i0v5 i0w i0k i0g1 i0g2 i0g3 i0g4 i0g5)) (An := az) (I0 := (nrm i0v0 i0v1 i0v2 i0v3 i0h i0v5 i0w i0k i0g1 i0g2 i0g3 i0g4 i0g5)) (I1 := (nrm i1v0 i1v1 i1v2 i1v3 i1h i1v5 i1w i1k i1g1 i1g2 i1g3 i1g4 i1g5)) (Or.inl c_1)).2.2.symm | exact (xrs_b (Lv := (nrm nv0 nv1 nv2 nv3 nhh nv5 nww nkk ng1 ng2 ng3 ng4 ng5)) (An := az) (I0 := (nrm i0v0 i0v1 i0v2 i0v3 i0h i0v5 i0w i0k i0g1 i0g2 i0g3 i0g4 i0g5)) (I1 := (nrm i1v0 i1v1 i1v2 i1v3 i1h i1v5 i1w i1k i1g1 i1g2 i1g3 i1g4 i1g5)) (Or.inl c_1)).1.symm)
  | (first | exact (xrs_b (Lv := (nrm i0v0 i0v1 i0v2 i0v3 i0h i0v5 i0w i0k i0g1 i0g2 i0g3 i0g4 i0g5)) (An := az) (I0 := (nrm i0v0 i0v1 i0v2 i0v3 i0h i0v5 i0w i0k i0g1 i0g2 i0g3 i0g4 i0g5)) (I1 := (nrm i1v0 i1v1 i1v2 i1v3 i1h i1v5 i1w i1k i1g1 i1g2 i1g3 i1g4 i1g5)) (Or.inr c_2)).2.1.symm | exact (xrs_b (Lv := (nrm i0v0 i0v1 i0v2 i0v3 i0h i0v5 i0w i0k i0g1 i0g2 i0g3 i0g4 i0g5)) (An := az) (I0 := (nrm i0v0 i0v1 i0v2 i0v3 i0h i0v5 i0w i0k i0g1 i0g2 i0g3 i0g4 i0g5)) (I1 := (nrm i1v0 i1v1 i1v2 i1v3 i1h i1v5 i1w i1k i1g1 i1g2 i1g3 i1g4 i1g5)) (Or.inr c_2)).2.2.symm | exact (xrs_b (Lv := (nrm nv0 nv1 nv2 nv3 nhh nv5 nww nkk ng1 ng2 ng3 ng4 ng5)) (An := az) (I0 := (nrm i0v0 i0v1 i0v2 i0v3 i0h i0v5 i0w i0k i0g1 i0g2 i0g3 i0g4 i0g5)) (I1 := (nrm i1v0 i1v1 i1v2 i1v3 i1h i1v5 i1w i1k i1g1 i1g2 i1g3 i1g4 i1g5)) (Or.inr c_2)).1.symm)
  | (have y := ((tX hL0 hg1 hg2 (by omega)).1 (by assumption)).1
     first | exact (xrs_00 (Lv := (nrm i0v0 i0v1 i0v2 i0v3 i0h i0v5 i0w i0k i0g1 i0g2 i0g3 i0g4 i0g5)) (An := az) (I0 := (nrm i0v0 i0v1 i0v2 i0v3 i0h i0v5 i0w i0k i0g1 i0g2 i0g3 i0g4 i0g5)) (I1 := (nrm i1v0 i1v1 i1v2 i1v3 i1h i1v5 i1w i1k i1g1 i1g2 i1g3 i1g4 i1g5)) (nr0.trans y)).2.1.symm | exact (xrs_00 (Lv := (nrm i0v0 i0v1 i0v2 i0v3 i0h i0v5 i0w i0k i0g1 i0g2 i0g3 i0g4 i0g5)) (An := az) (I0 := (nrm i0v0 i0v1 i0v2 i0v3 i0h i0v5 i0w i0k i0g1 i0g2 i0g3 i0g4 i0g5)) (I1 := (nrm i1v0 i1v1 i1v2 i1v3 i1h i1v5 i1w i1k i1g1 i1g2 i1g3 i1g4 i1g5)) (nr0.trans y)).2.2.symm | exact (xrs_00 (Lv := (nrm nv0 nv1 nv2 nv3 nhh nv5 nww nkk ng1 ng2 ng3 ng4 ng5)) (An := az) (I0 := (nrm i0v0 i0v1 i0v2 i0v3 i0h i0v5 i0w i0k i0g1 i0g2 i0g3 i0g4 i0g5)) (I1 := (nrm i1v0 i1v1 i1v2 i1v3 i1h i1v5 i1w i1k i1g1 i1g2 i1g3 i1g4 i1g5)) (nr0.trans y)).1.symm)
  | (have y := ((tX hL1 hg4 hg5 (by omega)).1 (by assumption)).1
     first | exact (xrs_10 (Lv := (nrm i0v0 i0v1 i0v2 i0v3 i0h i0v5 i0w i0k i0g1 i0g2 i0g3 i0g4 i0g5)) (An := az) (I0 := (nrm i0v0 i0v1 i0v2 i0v3 i0h i0v5 i0w i0k i0g1 i0g2 i0g3 i0g4 i0g5)) (I1 := (nrm i1v0 i1v1 i1v2 i1v3 i1h i1v5 i1w i1k i1g1 i1g2 i1g3 i1g4 i1g5)) (nr0.trans y)).2.1.symm | exact (xrs_10 (Lv := (nrm i0v0 i0v1 i0v2 i0v3 i0h i0v5 i0w i0k i0g1 i0g2 i0g3 i0g4 i0g5)) (An := az) (I0 := (nrm i0v0 i0v1 i0v2 i0v3 i0h i0v5 i0w i0k i0g1 i0g2 i0g3 i0g4 i0g5)) (I1 := (nrm i1v0 i1v1 i1v2 i1v3 i1h i1v5 i1w i1k i1g1 i1g2 i1g3 i1g4 i1g5)) (nr0.trans y)).2.2.symm | exact (xrs_10 (Lv := (nrm nv0 nv1 nv2 nv3 nhh nv5 nww nkk ng1 ng2 ng3 ng4 ng5)) (An := az) (I0 := (nrm i0v0 i0v1 i0v2 i0v3 i0h i0v5 i0w i0k i0g1 i0g2 i0g3 i0g4 i0g5)) (I1 := (nrm i1v0 i1v1 i1v2 i1v3 i1h i1v5 i1w i1k i1g1 i1g2 i1g3 i1g4 i1g5)) (nr0.trans y)).1.symm)
  | (have y := ((tX hL0 hg1 hg2 (by omega)).2 (by assumption)).1
     first | exact (xrs_01 (Lv := (nrm i0v0 i0v1 i0v2 i0v3 i0h i0v5 i0w i0k i0g1 i0g2 i0g3 i0g4 i0g5)) (An := az) (I0 := (nrm i0v0 i0v1 i0v2 i0v3 i0h i0v5 i0w i0k i0g1 i0g2 i0g3 i0g4 i0g5)) (I1 := (nrm i1v0 i1v1 i1v2 i1v3 i1h i1v5 i1w i1k i1g1 i1g2 i1g3 i1g4 i1g5)) (by rw [nr0]; exact y)).2.1.symm | exact (xrs_01 (Lv := (nrm i0v0 i0v1 i0v2 i0v3 i0h i0v5 i0w i0k i0g1 i0g2 i0g3 i0g4 i0g5)) (An := az) (I0 := (nrm i0v0 i0v1 i0v2 i0v3 i0h i0v5 i0w i0k i0g1 i0g2 i0g3 i0g4 i0g5)) (I1 := (nrm i1v0 i1v1 i1v2 i1v3 i1h i1v5 i1w i1k i1g1 i1g2 i1g3 i1g4 i1g5)) (by rw [nr0]; exact y)).2.2.symm | exact (nr_eq hg1 hg2 (by assumption) (by assumption) (by assumption) (by assumption) (by assumption)).trans (xrs_01 (Lv := (nrm nv0 nv1 nv2 nv3 nhh nv5 nww nkk ng1 ng2 ng3 ng4 ng5)) (An := az) (I0 := (nrm i0v0 i0v1 i0v2 i0v3 i0h i0v5 i0w i0k i0g1 i0g2 i0g3 i0g4 i0g5)) (I1 := (nrm i1v0 i1v1 i1v2 i1v3 i1h i1v5 i1w i1k i1g1 i1g2 i1g3 i1g4 i1g5)) (by rw [nr0]; exact y)).1.symm)
  | (have y := ((tX hL1 hg4 hg5 (by omega)).2 (by assumption)).1
     first | exact (xrs_11 (Lv := (nrm i0v0 i0v1 i0v2 i0v3 i0h i0v5 i0w i0k i0g1 i0g2 i0g3 i0g4 i0g5)) (An := az) (I0 := (nrm i0v0 i0v1 i0v2 i0v3 i0h i0v5 i0w i0k i0g1 i0g2 i0g3 i0g4 i0g5)) (I1 := (nrm i1v0 i1v1 i1v2 i1v3 i1h i1v5 i1w i1k i1g1 i1g2 i1g3 i1g4 i1g5)) (by rw [nr0]; exact y)).2.1.symm | exact (xrs_11 (Lv := (nrm i0v0 i0v1 i0v2 i0v3 i0h i0v5 i0w i0k i0g1 i0g2 i0g3 i0g4 i0g5)) (An := az) (I0 := (nrm i0v0 i0v1 i0v2 i0v3 i0h i0v5 i0w i0k i0g1 i0g2 i0g3 i0g4 i0g5)) (I1 := (nrm i1v0 i1v1 i1v2 i1v3 i1h i1v5 i1w i1k i1g1 i1g2 i1g3 i1g4 i1g5)) (by rw [nr0]; exact y)).2.2.symm | exact (nr_eq hg4 hg5 (by assumption) (by assumption) (by assumption) (by assumption) (by assumption)).trans (xrs_11 (Lv := (nrm nv0 nv1 nv2 nv3 nhh nv5 nww nkk ng1 ng2 ng3 ng4 ng5)) (An := az) (I0 := (nrm i0v0 i0v1 i0v2 i0v3 i0h i0v5 i0w i0k i0g1 i0g2 i0g3 i0g4 i0g5)) (I1 := (nrm i1v0 i1v1 i1v2 i1v3 i1h i1v5 i1w i1k i1g1 i1g2 i1g3 i1g4 i1g5)) (by rw [nr0]; exact y)).1.symm)
theorem lf_X7_restore_25 {nhh : Nat} {nww : Nat} {nkk : Nat} {fi : Nat → Option Nat} {i0 : Nat} {i0v0 : Int32} {i0v1 : Int32} {i0v2 : Int32} {i0v3 : Int32} {i0v5 : Int32} {i0h : Nat} {i0w : Nat} {i0k : Nat} {i0g1 : Nat → Int32} {i0g2 : Nat → Int32} {i0g3 : Nat → Int32} {i0g4 : Nat → Int32} {i0g5 : Nat → Int32} {i1 : Nat} {i1v0 : Int32} {i1v1 : Int32} {i1v2 : Int32} {i1v3 : Int32} {i1v5 : Int32} {i1h : Nat} {i1w : Nat} {i1k : Nat} {i1g1 : Nat → Int32} {i1g2 : Nat → Int32} {i1g3 : Nat → Int32} {i1g4 : Nat → Int32} {i1g5 : Nat → Int32} {az : Nat} (nhb : nhh ≤ 999) (nwb : nww ≤ 6) (nkb : nkk ≤ 6) (hi0 : fi 0 = some i0) (hi1 : fi 1 = some i1) (hg0 : i0h ≤ 999) (hg1 : i0w ≤ 6) (hg2 : i0k ≤ 6) (hg3 : i1h ≤ 999) (hg4 : i1w ≤ 6) (hg5 : i1k ≤ 6) (haz : az ≤ 24) (hL0 : okLv (nrm i0v0 i0v1 i0v2 i0v3 i0h i0v5 i0w i0k i0g1 i0g2 i0g3 i0g4 i0g5)) (hL1 : okLv (nrm i1v0 i1v1 i1v2 i1v3 i1h i1v5 i1w i1k i1g1 i1g2 i1g3 i1g4 i1g5)) (c_1 : ¬ ((1 : Int32) < 0)) (c_2 : (1 : Int32) < 2) (f_8_0_0 : ¬ 0 < i1v0) : az ≤ 24 := by
  first
  | assumption
  | omega
  | (first | exact (xrs_b (Lv := (nrm i0v0 i0v1 i0v2 i0v3 i0h i0v5 i0w i0k i0g1 i0g2 i0g3 i0g4 i0g5)) (An := az) (I0 := (nrm i0v0 i0v1 i0v2 i0v3 i0h i0v5 i0w i0k i0g1 i0g2 i0g3 i0g4 i0g5)) (I1 := (nrm i1v0 i1v1 i1v2 i1v3 i1h i1v5 i1w i1k i1g1 i1g2 i1g3 i1g4 i1g5)) (Or.inl c_1)).2.1.symm | exact (xrs_b (Lv := (nrm i0v0 i0v1 i0v2 i0v3 i0h i0v5 i0w i0k i0g1 i0g2 i0g3 i0g4 i0g5)) (An := az) (I0 := (nrm i0v0 i0v1 i0v2 i0v3 i0h i0v5 i0w i0k i0g1 i0g2 i0g3 i0g4 i0g5)) (I1 := (nrm i1v0 i1v1 i1v2 i1v3 i1h i1v5 i1w i1k i1g1 i1g2 i1g3 i1g4 i1g5)) (Or.inl c_1)).2.2.symm | exact (xrs_b (Lv := (nrm nv0 nv1 nv2 nv3 nhh nv5 nww nkk ng1 ng2 ng3 ng4 ng5)) (An := az) (I0 := (nrm i0v0 i0v1 i0v2 i0v3 i0h i0v5 i0w i0k i0g1 i0g2 i0g3 i0g4 i0g5)) (I1 := (nrm i1v0 i1v1 i1v2 i1v3 i1h i1v5 i1w i1k i1g1 i1g2 i1g3 i1g4 i1g5)) (Or.inl c_1)).1.symm)
  | (first | exact (xrs_b (Lv := (nrm i0v0 i0v1 i0v2 i0v3 i0h i0v5 i0w i0k i0g1 i0g2 i0g3 i0g4 i0g5)) (An := az) (I0 := (nrm i0v0 i0v1 i0v2 i0v3 i0h i0v5 i0w i0k i0g1 i0g2 i0g3 i0g4 i0g5)) (I1 := (nrm i1v0 i1v1 i1v2 i1v3 i1h i1v5 i1w i1k i1g1 i1g2 i1g3 i1g4 i1g5)) (Or.inr c_2)).2.1.symm | exact (xrs_b (Lv := (nrm i0v0 i0v1 i0v2 i0v3 i0h i0v5 i0w i0k i0g1 i0g2 i0g3 i0g4 i0g5)) (An := az) (I0 := (nrm i0v0 i0v1 i0v2 i0v3 i0h i0v5 i0w i0k i0g1 i0g2 i0g3 i0g4 i0g5)) (I1 := (nrm i1v0 i1v1 i1v2 i1v3 i1h i1v5 i1w i1k i1g1 i1g2 i1g3 i1g4 i1g5)) (Or.inr c_2)).2.2.symm | exact (xrs_b (Lv := (nrm nv0 nv1 nv2 nv3 nhh nv5 nww nkk ng1 ng2 ng3 ng4 ng5)) (An := az) (I0 := (nrm i0v0 i0v1 i0v2 i0v3 i0h i0v5 i0w i0k i0g1 i0g2 i0g3 i0g4 i0g5)) (I1 := (nrm i1v0 i1v1 i1v2 i1v3 i1h i1v5 i1w i1k i1g1 i1g2 i1g3 i1g4 i1g5)) (Or.inr c_2)).1.symm)
  | (have y := ((tX hL0 hg1 hg2 (by omega)).1 (by assumption)).1
     first | exact (xrs_00 (Lv := (nrm i0v0 i0v1 i0v2 i0v3 i0h i0v5 i0w i0k i0g1 i0g2 i0g3 i0g4 i0g5)) (An := az) (I0 := (nrm i0v0 i0v1 i0v2 i0v3 i0h i0v5 i0w i0k i0g1 i0g2 i0g3 i0g4 i0g5)) (I1 := (nrm i1v0 i1v1 i1v2 i1v3 i1h i1v5 i1w i1k i1g1 i1g2 i1g3 i1g4 i1g5)) (nr0.trans y)).2.1.symm | exact (xrs_00 (Lv := (nrm i0v0 i0v1 i0v2 i0v3 i0h i0v5 i0w i0k i0g1 i0g2 i0g3 i0g4 i0g5)) (An := az) (I0 := (nrm i0v0 i0v1 i0v2 i0v3 i0h i0v5 i0w i0k i0g1 i0g2 i0g3 i0g4 i0g5)) (I1 := (nrm i1v0 i1v1 i1v2 i1v3 i1h i1v5 i1w i1k i1g1 i1g2 i1g3 i1g4 i1g5)) (nr0.trans y)).2.2.symm | exact (xrs_00 (Lv := (nrm nv0 nv1 nv2 nv3 nhh nv5 nww nkk ng1 ng2 ng3 ng4 ng5)) (An := az) (I0 := (nrm i0v0 i0v1 i0v2 i0v3 i0h i0v5 i0w i0k i0g1 i0g2 i0g3 i0g4 i0g5)) (I1 := (nrm i1v0 i1v1 i1v2 i1v3 i1h i1v5 i1w i1k i1g1 i1g2 i1g3 i1g4 i1g5)) (nr0.trans y)).1.symm)
  | (have y := ((tX hL1 hg4 hg5 (by omega)).1 (by assumption)).1
     first | exact (xrs_10 (Lv := (nrm i0v0 i0v1 i0v2 i0v3 i0h i0v5 i0w i0k i0g1 i0g2 i0g3 i0g4 i0g5)) (An := az) (I0 := (nrm i0v0 i0v1 i0v2 i0v3 i0h i0v5 i0w i0k i0g1 i0g2 i0g3 i0g4 i0g5)) (I1 := (nrm i1v0 i1v1 i1v2 i1v3 i1h i1v5 i1w i1k i1g1 i1g2 i1g3 i1g4 i1g5)) (nr0.trans y)).2.1.symm | exact (xrs_10 (Lv := (nrm i0v0 i0v1 i0v2 i0v3 i0h i0v5 i0w i0k i0g1 i0g2 i0g3 i0g4 i0g5)) (An := az) (I0 := (nrm i0v0 i0v1 i0v2 i0v3 i0h i0v5 i0w i0k i0g1 i0g2 i0g3 i0g4 i0g5)) (I1 := (nrm i1v0 i1v1 i1v2 i1v3 i1h i1v5 i1w i1k i1g1 i1g2 i1g3 i1g4 i1g5)) (nr0.trans y)).2.2.symm | exact (xrs_10 (Lv := (nrm nv0 nv1 nv2 nv3 nhh nv5 nww nkk ng1 ng2 ng3 ng4 ng5)) (An := az) (I0 := (nrm i0v0 i0v1 i0v2 i0v3 i0h i0v5 i0w i0k i0g1 i0g2 i0g3 i0g4 i0g5)) (I1 := (nrm i1v0 i1v1 i1v2 i1v3 i1h i1v5 i1w i1k i1g1 i1g2 i1g3 i1g4 i1g5)) (nr0.trans y)).1.symm)
  | (have y := ((tX hL0 hg1 hg2 (by omega)).2 (by assumption)).1
     first | exact (xrs_01 (Lv := (nrm i0v0 i0v1 i0v2 i0v3 i0h i0v5 i0w i0k i0g1 i0g2 i0g3 i0g4 i0g5)) (An := az) (I0 := (nrm i0v0 i0v1 i0v2 i0v3 i0h i0v5 i0w i0k i0g1 i0g2 i0g3 i0g4 i0g5)) (I1 := (nrm i1v0 i1v1 i1v2 i1v3 i1h i1v5 i1w i1k i1g1 i1g2 i1g3 i1g4 i1g5)) (by rw [nr0]; exact y)).2.1.symm | exact (xrs_01 (Lv := (nrm i0v0 i0v1 i0v2 i0v3 i0h i0v5 i0w i0k i0g1 i0g2 i0g3 i0g4 i0g5)) (An := az) (I0 := (nrm i0v0 i0v1 i0v2 i0v3 i0h i0v5 i0w i0k i0g1 i0g2 i0g3 i0g4 i0g5)) (I1 := (nrm i1v0 i1v1 i1v2 i1v3 i1h i1v5 i1w i1k i1g1 i1g2 i1g3 i1g4 i1g5)) (by rw [nr0]; exact y)).2.2.symm | exact (nr_eq hg1 hg2 (by assumption) (by assumption) (by assumption) (by assumption) (by assumption)).trans (xrs_01 (Lv := (nrm nv0 nv1 nv2 nv3 nhh nv5 nww nkk ng1 ng2 ng3 ng4 ng5)) (An := az) (I0 := (nrm i0v0 i0v1 i0v2 i0v3 i0h i0v5 i0w i0k i0g1 i0g2 i0g3 i0g4 i0g5)) (I1 := (nrm i1v0 i1v1 i1v2 i1v3 i1h i1v5 i1w i1k i1g1 i1g2 i1g3 i1g4 i1g5)) (by rw [nr0]; exact y)).1.symm)
  | (have y := ((tX hL1 hg4 hg5 (by omega)).2 (by assumption)).1
     first | exact (xrs_11 (Lv := (nrm i0v0 i0v1 i0v2 i0v3 i0h i0v5 i0w i0k i0g1 i0g2 i0g3 i0g4 i0g5)) (An := az) (I0 := (nrm i0v0 i0v1 i0v2 i0v3 i0h i0v5 i0w i0k i0g1 i0g2 i0g3 i0g4 i0g5)) (I1 := (nrm i1v0 i1v1 i1v2 i1v3 i1h i1v5 i1w i1k i1g1 i1g2 i1g3 i1g4 i1g5)) (by rw [nr0]; exact y)).2.1.symm | exact (xrs_11 (Lv := (nrm i0v0 i0v1 i0v2 i0v3 i0h i0v5 i0w i0k i0g1 i0g2 i0g3 i0g4 i0g5)) (An := az) (I0 := (nrm i0v0 i0v1 i0v2 i0v3 i0h i0v5 i0w i0k i0g1 i0g2 i0g3 i0g4 i0g5)) (I1 := (nrm i1v0 i1v1 i1v2 i1v3 i1h i1v5 i1w i1k i1g1 i1g2 i1g3 i1g4 i1g5)) (by rw [nr0]; exact y)).2.2.symm | exact (nr_eq hg4 hg5 (by assumption) (by assumption) (by assumption) (by assumption) (by assumption)).trans (xrs_11 (Lv := (nrm nv0 nv1 nv2 nv3 nhh nv5 nww nkk ng1 ng2 ng3 ng4 ng5)) (An := az) (I0 := (nrm i0v0 i0v1 i0v2 i0v3 i0h i0v5 i0w i0k i0g1 i0g2 i0g3 i0g4 i0g5)) (I1 := (nrm i1v0 i1v1 i1v2 i1v3 i1h i1v5 i1w i1k i1g1 i1g2 i1g3 i1g4 i1g5)) (by rw [nr0]; exact y)).1.symm)
theorem lf_X7_restore_26 {nv0 : Int32} {nv1 : Int32} {nv2 : Int32} {nv3 : Int32} {nv5 : Int32} {nhh : Nat} {nww : Nat} {nkk : Nat} {ng1 : Nat → Int32} {ng2 : Nat → Int32} {ng3 : Nat → Int32} {ng4 : Nat → Int32} {ng5 : Nat → Int32} {fi : Nat → Option Nat} {i0 : Nat} {i0v0 : Int32} {i0v1 : Int32} {i0v2 : Int32} {i0v3 : Int32} {i0v5 : Int32} {i0h : Nat} {i0w : Nat} {i0k : Nat} {i0g1 : Nat → Int32} {i0g2 : Nat → Int32} {i0g3 : Nat → Int32} {i0g4 : Nat → Int32} {i0g5 : Nat → Int32} {i1 : Nat} {i1v0 : Int32} {i1v1 : Int32} {i1v2 : Int32} {i1v3 : Int32} {i1v5 : Int32} {i1h : Nat} {i1w : Nat} {i1k : Nat} {i1g1 : Nat → Int32} {i1g2 : Nat → Int32} {i1g3 : Nat → Int32} {i1g4 : Nat → Int32} {i1g5 : Nat → Int32} {az : Nat} (nhb : nhh ≤ 999) (nwb : nww ≤ 6) (nkb : nkk ≤ 6) (hi0 : fi 0 = some i0) (hi1 : fi 1 = some i1) (hg0 : i0h ≤ 999) (hg1 : i0w ≤ 6) (hg2 : i0k ≤ 6) (hg3 : i1h ≤ 999) (hg4 : i1w ≤ 6) (hg5 : i1k ≤ 6) (haz : az ≤ 24) (hL0 : okLv (nrm i0v0 i0v1 i0v2 i0v3 i0h i0v5 i0w i0k i0g1 i0g2 i0g3 i0g4 i0g5)) (hL1 : okLv (nrm i1v0 i1v1 i1v2 i1v3 i1h i1v5 i1w i1k i1g1 i1g2 i1g3 i1g4 i1g5)) (c_1 : ¬ ((1 : Int32) < 0)) (c_2 : (1 : Int32) < 2) (f_8_0_0 : ¬ 0 < i1v0) : (nrm nv0 nv1 nv2 nv3 nhh nv5 nww nkk ng1 ng2 ng3 ng4 ng5) = n_rst (nrm nv0 nv1 nv2 nv3 nhh nv5 nww nkk ng1 ng2 ng3 ng4 ng5) (nrm i0v0 i0v1 i0v2 i0v3 i0h i0v5 i0w i0k i0g1 i0g2 i0g3 i0g4 i0g5) (nrm i1v0 i1v1 i1v2 i1v3 i1h i1v5 i1w i1k i1g1 i1g2 i1g3 i1g4 i1g5) (1 : Int32) := by
  first
  | assumption
  | omega
  | (first | exact (xrs_b (Lv := (nrm i0v0 i0v1 i0v2 i0v3 i0h i0v5 i0w i0k i0g1 i0g2 i0g3 i0g4 i0g5)) (An := az) (I0 := (nrm i0v0 i0v1 i0v2 i0v3 i0h i0v5 i0w i0k i0g1 i0g2 i0g3 i0g4 i0g5)) (I1 := (nrm i1v0 i1v1 i1v2 i1v3 i1h i1v5 i1w i1k i1g1 i1g2 i1g3 i1g4 i1g5)) (Or.inl c_1)).2.1.symm | exact (xrs_b (Lv := (nrm i0v0 i0v1 i0v2 i0v3 i0h i0v5 i0w i0k i0g1 i0g2 i0g3 i0g4 i0g5)) (An := az) (I0 := (nrm i0v0 i0v1 i0v2 i0v3 i0h i0v5 i0w i0k i0g1 i0g2 i0g3 i0g4 i0g5)) (I1 := (nrm i1v0 i1v1 i1v2 i1v3 i1h i1v5 i1w i1k i1g1 i1g2 i1g3 i1g4 i1g5)) (Or.inl c_1)).2.2.symm | exact (xrs_b (Lv := (nrm nv0 nv1 nv2 nv3 nhh nv5 nww nkk ng1 ng2 ng3 ng4 ng5)) (An := az) (I0 := (nrm i0v0 i0v1 i0v2 i0v3 i0h i0v5 i0w i0k i0g1 i0g2 i0g3 i0g4 i0g5)) (I1 := (nrm i1v0 i1v1 i1v2 i1v3 i1h i1v5 i1w i1k i1g1 i1g2 i1g3 i1g4 i1g5)) (Or.inl c_1)).1.symm)
  | (first | exact (xrs_b (Lv := (nrm i0v0 i0v1 i0v2 i0v3 i0h i0v5 i0w i0k i0g1 i0g2 i0g3 i0g4 i0g5)) (An := az) (I0 := (nrm i0v0 i0v1 i0v2 i0v3 i0h i0v5 i0w i0k i0g1 i0g2 i0g3 i0g4 i0g5)) (I1 := (nrm i1v0 i1v1 i1v2 i1v3 i1h i1v5 i1w i1k i1g1 i1g2 i1g3 i1g4 i1g5)) (Or.inr c_2)).2.1.symm | exact (xrs_b (Lv := (nrm i0v0 i0v1 i0v2 i0v3 i0h i0v5 i0w i0k i0g1 i0g2 i0g3 i0g4 i0g5)) (An := az) (I0 := (nrm i0v0 i0v1 i0v2 i0v3 i0h i0v5 i0w i0k i0g1 i0g2 i0g3 i0g4 i0g5)) (I1 := (nrm i1v0 i1v1 i1v2 i1v3 i1h i1v5 i1w i1k i1g1 i1g2 i1g3 i1g4 i1g5)) (Or.inr c_2)).2.2.symm | exact (xrs_b (Lv := (nrm nv0 nv1 nv2 nv3 nhh nv5 nww nkk ng1 ng2 ng3 ng4 ng5)) (An := az) (I0 := (nrm i0v0 i0v1 i0v2 i0v3 i0h i0v5 i0w i0k i0g1 i0g2 i0g3 i0g4 i0g5)) (I1 := (nrm i1v0 i1v1 i1v2 i1v3 i1h i1v5 i1w i1k i1g1 i1g2 i1g3 i1g4 i1g5)) (Or.inr c_2)).1.symm)
  | (have y := ((tX hL0 hg1 hg2 (by omega)).1 (by assumption)).1
     first | exact (xrs_00 (Lv := (nrm i0v0 i0v1 i0v2 i0v3 i0h i0v5 i0w i0k i0g1 i0g2 i0g3 i0g4 i0g5)) (An := az) (I0 := (nrm i0v0 i0v1 i0v2 i0v3 i0h i0v5 i0w i0k i0g1 i0g2 i0g3 i0g4 i0g5)) (I1 := (nrm i1v0 i1v1 i1v2 i1v3 i1h i1v5 i1w i1k i1g1 i1g2 i1g3 i1g4 i1g5)) (nr0.trans y)).2.1.symm | exact (xrs_00 (Lv := (nrm i0v0 i0v1 i0v2 i0v3 i0h i0v5 i0w i0k i0g1 i0g2 i0g3 i0g4 i0g5)) (An := az) (I0 := (nrm i0v0 i0v1 i0v2 i0v3 i0h i0v5 i0w i0k i0g1 i0g2 i0g3 i0g4 i0g5)) (I1 := (nrm i1v0 i1v1 i1v2 i1v3 i1h i1v5 i1w i1k i1g1 i1g2 i1g3 i1g4 i1g5)) (nr0.trans y)).2.2.symm | exact (xrs_00 (Lv := (nrm nv0 nv1 nv2 nv3 nhh nv5 nww nkk ng1 ng2 ng3 ng4 ng5)) (An := az) (I0 := (nrm i0v0 i0v1 i0v2 i0v3 i0h i0v5 i0w i0k i0g1 i0g2 i0g3 i0g4 i0g5)) (I1 := (nrm i1v0 i1v1 i1v2 i1v3 i1h i1v5 i1w i1k i1g1 i1g2 i1g3 i1g4 i1g5)) (nr0.trans y)).1.symm)
  | (have y := ((tX hL1 hg4 hg5 (by omega)).1 (by assumption)).1
     first | exact (xrs_10 (Lv := (nrm i0v0 i0v1 i0v2 i0v3 i0h i0v5 i0w i0k i0g1 i0g2 i0g3 i0g4 i0g5)) (An := az) (I0 := (nrm i0v0 i0v1 i0v2 i0v3 i0h i0v5 i0w i0k i0g1 i0g2 i0g3 i0g4 i0g5)) (I1 := (nrm i1v0 i1v1 i1v2 i1v3 i1h i1v5 i1w i1k i1g1 i1g2 i1g3 i1g4 i1g5)) (nr0.trans y)).2.1.symm | exact (xrs_10 (Lv := (nrm i0v0 i0v1 i0v2 i0v3 i0h i0v5 i0w i0k i0g1 i0g2 i0g3 i0g4 i0g5)) (An := az) (I0 := (nrm i0v0 i0v1 i0v2 i0v3 i0h i0v5 i0w i0k i0g1 i0g2 i0g3 i0g4 i0g5)) (I1 := (nrm i1v0 i1v1 i1v2 i1v3 i1h i1v5 i1w i1k i1g1 i1g2 i1g3 i1g4 i1g5)) (nr0.trans y)).2.2.symm | exact (xrs_10 (Lv := (nrm nv0 nv1 nv2 nv3 nhh nv5 nww nkk ng1 ng2 ng3 ng4 ng5)) (An := az) (I0 := (nrm i0v0 i0v1 i0v2 i0v3 i0h i0v5 i0w i0k i0g1 i0g2 i0g3 i0g4 i0g5)) (I1 := (nrm i1v0 i1v1 i1v2 i1v3 i1h i1v5 i1w i1k i1g1 i1g2 i1g3 i1g4 i1g5)) (nr0.trans y)).1.symm)
  | (have y := ((tX hL0 hg1 hg2 (by omega)).2 (by assumption)).1
     first | exact (xrs_01 (Lv := (nrm i0v0 i0v1 i0v2 i0v3 i0h i0v5 i0w i0k i0g1 i0g2 i0g3 i0g4 i0g5)) (An := az) (I0 := (nrm i0v0 i0v1 i0v2 i0v3 i0h i0v5 i0w i0k i0g1 i0g2 i0g3 i0g4 i0g5)) (I1 := (nrm i1v0 i1v1 i1v2 i1v3 i1h i1v5 i1w i1k i1g1 i1g2 i1g3 i1g4 i1g5)) (by rw [nr0]; exact y)).2.1.symm | exact (xrs_01 (Lv := (nrm i0v0 i0v1 i0v2 i0v3 i0h i0v5 i0w i0k i0g1 i0g2 i0g3 i0g4 i0g5)) (An := az) (I0 := (nrm i0v0 i0v1 i0v2 i0v3 i0h i0v5 i0w i0k i0g1 i0g2 i0g3 i0g4 i0g5)) (I1 := (nrm i1v0 i1v1 i1v2 i1v3 i1h i1v5 i1w i1k i1g1 i1g2 i1g3 i1g4 i1g5)) (by rw [nr0]; exact y)).2.2.symm | exact (nr_eq hg1 hg2 (by assumption) (by assumption) (by assumption) (by assumption) (by assumption)).trans (xrs_01 (Lv := (nrm nv0 nv1 nv2 nv3 nhh nv5 nww nkk ng1 ng2 ng3 ng4 ng5)) (An := az) (I0 := (nrm i0v0 i0v1 i0v2 i0v3 i0h i0v5 i0w i0k i0g1 i0g2 i0g3 i0g4 i0g5)) (I1 := (nrm i1v0 i1v1 i1v2 i1v3 i1h i1v5 i1w i1k i1g1 i1g2 i1g3 i1g4 i1g5)) (by rw [nr0]; exact y)).1.symm)
  | (have y := ((tX hL1 hg4 hg5 (by omega)).2 (by assumption)).1
     first | exact (xrs_11 (Lv := (nrm i0v0 i0v1 i0v2 i0v3 i0h i0v5 i0w i0k i0g1 i0g2 i0g3 i0g4 i0g5)) (An := az) (I0 := (nrm i0v0 i0v1 i0v2 i0v3 i0h i0v5 i0w i0k i0g1 i0g2 i0g3 i0g4 i0g5)) (I1 := (nrm i1v0 i1v1 i1v2 i1v3 i1h i1v5 i1w i1k i1g1 i1g2 i1g3 i1g4 i1g5)) (by rw [nr0]; exact y)).2.1.symm | exact (xrs_11 (Lv := (nrm i0v0 i0v1 i0v2 i0v3 i0h i0v5 i0w i0k i0g1 i0g2 i0g3 i0g4 i0g5)) (An := az) (I0 := (nrm i0v0 i0v1 i0v2 i0v3 i0h i0v5 i0w i0k i0g1 i0g2 i0g3 i0g4 i0g5)) (I1 := (nrm i1v0 i1v1 i1v2 i1v3 i1h i1v5 i1w i1k i1g1 i1g2 i1g3 i1g4 i1g5)) (by rw [nr0]; exact y)).2.2.symm | exact (nr_eq hg4 hg5 (by assumption) (by assumption) (by assumption) (by assumption) (by assumption)).trans (xrs_11 (Lv := (nrm nv0 nv1 nv2 nv3 nhh nv5 nww nkk ng1 ng2 ng3 ng4 ng5)) (An := az) (I0 := (nrm i0v0 i0v1 i0v2 i0v3 i0h i0v5 i0w i0k i0g1 i0g2 i0g3 i0g4 i0g5)) (I1 := (nrm i1v0 i1v1 i1v2 i1v3 i1h i1v5 i1w i1k i1g1 i1g2 i1g3 i1g4 i1g5)) (by rw [nr0]; exact y)).1.symm)
theorem lf_X7_restore_27 {nhh : Nat} {nww : Nat} {nkk : Nat} {fi : Nat → Option Nat} {i0 : Nat} {i0v0 : Int32} {i0v1 : Int32} {i0v2 : Int32} {i0v3 : Int32} {i0v5 : Int32} {i0h : Nat} {i0w : Nat} {i0k : Nat} {i0g1 : Nat → Int32} {i0g2 : Nat → Int32} {i0g3 : Nat → Int32} {i0g4 : Nat → Int32} {i0g5 : Nat → Int32} {i1 : Nat} {i1v0 : Int32} {i1v1 : Int32} {i1v2 : Int32} {i1v3 : Int32} {i1v5 : Int32} {i1h : Nat} {i1w : Nat} {i1k : Nat} {i1g1 : Nat → Int32} {i1g2 : Nat → Int32} {i1g3 : Nat → Int32} {i1g4 : Nat → Int32} {i1g5 : Nat → Int32} {az : Nat} (nhb : nhh ≤ 999) (nwb : nww ≤ 6) (nkb : nkk ≤ 6) (hi0 : fi 0 = some i0) (hi1 : fi 1 = some i1) (hg0 : i0h ≤ 999) (hg1 : i0w ≤ 6) (hg2 : i0k ≤ 6) (hg3 : i1h ≤ 999) (hg4 : i1w ≤ 6) (hg5 : i1k ≤ 6) (haz : az ≤ 24) (hL0 : okLv (nrm i0v0 i0v1 i0v2 i0v3 i0h i0v5 i0w i0k i0g1 i0g2 i0g3 i0g4 i0g5)) (hL1 : okLv (nrm i1v0 i1v1 i1v2 i1v3 i1h i1v5 i1w i1k i1g1 i1g2 i1g3 i1g4 i1g5)) (c_1 : ¬ ((1 : Int32) < 0)) (c_2 : (1 : Int32) < 2) (f_8_0_0 : ¬ 0 < i1v0) : az = m_rst az (nrm i0v0 i0v1 i0v2 i0v3 i0h i0v5 i0w i0k i0g1 i0g2 i0g3 i0g4 i0g5) (nrm i1v0 i1v1 i1v2 i1v3 i1h i1v5 i1w i1k i1g1 i1g2 i1g3 i1g4 i1g5) (1 : Int32) := by
  first
  | assumption
  | omega
  | (first | exact (xrs_b (Lv := (nrm i0v0 i0v1 i0v2 i0v3 i0h i0v5 i0w i0k i0g1 i0g2 i0g3 i0g4 i0g5)) (An := az) (I0 := (nrm i0v0 i0v1 i0v2 i0v3 i0h i0v5 i0w i0k i0g1 i0g2 i0g3 i0g4 i0g5)) (I1 := (nrm i1v0 i1v1 i1v2 i1v3 i1h i1v5 i1w i1k i1g1 i1g2 i1g3 i1g4 i1g5)) (Or.inl c_1)).2.1.symm | exact (xrs_b (Lv := (nrm i0v0 i0v1 i0v2 i0v3 i0h i0v5 i0w i0k i0g1 i0g2 i0g3 i0g4 i0g5)) (An := az) (I0 := (nrm i0v0 i0v1 i0v2 i0v3 i0h i0v5 i0w i0k i0g1 i0g2 i0g3 i0g4 i0g5)) (I1 := (nrm i1v0 i1v1 i1v2 i1v3 i1h i1v5 i1w i1k i1g1 i1g2 i1g3 i1g4 i1g5)) (Or.inl c_1)).2.2.symm | exact (xrs_b (Lv := (nrm nv0 nv1 nv2 nv3 nhh nv5 nww nkk ng1 ng2 ng3 ng4 ng5)) (An := az) (I0 := (nrm i0v0 i0v1 i0v2 i0v3 i0h i0v5 i0w i0k i0g1 i0g2 i0g3 i0g4 i0g5)) (I1 := (nrm i1v0 i1v1 i1v2 i1v3 i1h i1v5 i1w i1k i1g1 i1g2 i1g3 i1g4 i1g5)) (Or.inl c_1)).1.symm)
  | (first | exact (xrs_b (Lv := (nrm i0v0 i0v1 i0v2 i0v3 i0h i0v5 i0w i0k i0g1 i0g2 i0g3 i0g4 i0g5)) (An := az) (I0 := (nrm i0v0 i0v1 i0v2 i0v3 i0h i0v5 i0w i0k i0g1 i0g2 i0g3 i0g4 i0g5)) (I1 := (nrm i1v0 i1v1 i1v2 i1v3 i1h i1v5 i1w i1k i1g1 i1g2 i1g3 i1g4 i1g5)) (Or.inr c_2)).2.1.symm | exact (xrs_b (Lv := (nrm i0v0 i0v1 i0v2 i0v3 i0h i0v5 i0w i0k i0g1 i0g2 i0g3 i0g4 i0g5)) (An := az) (I0 := (nrm i0v0 i0v1 i0v2 i0v3 i0h i0v5 i0w i0k i0g1 i0g2 i0g3 i0g4 i0g5)) (I1 := (nrm i1v0 i1v1 i1v2 i1v3 i1h i1v5 i1w i1k i1g1 i1g2 i1g3 i1g4 i1g5)) (Or.inr c_2)).2.2.symm | exact (xrs_b (Lv := (nrm nv0 nv1 nv2 nv3 nhh nv5 nww nkk ng1 ng2 ng3 ng4 ng5)) (An := az) (I0 := (nrm i0v0 i0v1 i0v2 i0v3 i0h i0v5 i0w i0k i0g1 i0g2 i0g3 i0g4 i0g5)) (I1 := (nrm i1v0 i1v1 i1v2 i1v3 i1h i1v5 i1w i1k i1g1 i1g2 i1g3 i1g4 i1g5)) (Or.inr c_2)).1.symm)
  | (have y := ((tX hL0 hg1 hg2 (by omega)).1 (by assumption)).1
     first | exact (xrs_00 (Lv := (nrm i0v0 i0v1 i0v2 i0v3 i0h i0v5 i0w i0k i0g1 i0g2 i0g3 i0g4 i0g5)) (An := az) (I0 := (nrm i0v0 i0v1 i0v2 i0v3 i0h i0v5 i0w i0k i0g1 i0g2 i0g3 i0g4 i0g5)) (I1 := (nrm i1v0 i1v1 i1v2 i1v3 i1h i1v5 i1w i1k i1g1 i1g2 i1g3 i1g4 i1g5)) (nr0.trans y)).2.1.symm | exact (xrs_00 (Lv := (nrm i0v0 i0v1 i0v2 i0v3 i0h i0v5 i0w i0k i0g1 i0g2 i0g3 i0g4 i0g5)) (An := az) (I0 := (nrm i0v0 i0v1 i0v2 i0v3 i0h i0v5 i0w i0k i0g1 i0g2 i0g3 i0g4 i0g5)) (I1 := (nrm i1v0 i1v1 i1v2 i1v3 i1h i1v5 i1w i1k i1g1 i1g2 i1g3 i1g4 i1g5)) (nr0.trans y)).2.2.symm | exact (xrs_00 (Lv := (nrm nv0 nv1 nv2 nv3 nhh nv5 nww nkk ng1 ng2 ng3 ng4 ng5)) (An := az) (I0 := (nrm i0v0 i0v1 i0v2 i0v3 i0h i0v5 i0w i0k i0g1 i0g2 i0g3 i0g4 i0g5)) (I1 := (nrm i1v0 i1v1 i1v2 i1v3 i1h i1v5 i1w i1k i1g1 i1g2 i1g3 i1g4 i1g5)) (nr0.trans y)).1.symm)
  | (have y := ((tX hL1 hg4 hg5 (by omega)).1 (by assumption)).1
     first | exact (xrs_10 (Lv := (nrm i0v0 i0v1 i0v2 i0v3 i0h i0v5 i0w i0k i0g1 i0g2 i0g3 i0g4 i0g5)) (An := az) (I0 := (nrm i0v0 i0v1 i0v2 i0v3 i0h i0v5 i0w i0k i0g1 i0g2 i0g3 i0g4 i0g5)) (I1 := (nrm i1v0 i1v1 i1v2 i1v3 i1h i1v5 i1w i1k i1g1 i1g2 i1g3 i1g4 i1g5)) (nr0.trans y)).2.1.symm | exact (xrs_10 (Lv := (nrm i0v0 i0v1 i0v2 i0v3 i0h i0v5 i0w i0k i0g1 i0g2 i0g3 i0g4 i0g5)) (An := az) (I0 := (nrm i0v0 i0v1 i0v2 i0v3 i0h i0v5 i0w i0k i0g1 i0g2 i0g3 i0g4 i0g5)) (I1 := (nrm i1v0 i1v1 i1v2 i1v3 i1h i1v5 i1w i1k i1g1 i1g2 i1g3 i1g4 i1g5)) (nr0.trans y)).2.2.symm | exact (xrs_10 (Lv := (nrm nv0 nv1 nv2 nv3 nhh nv5 nww nkk ng1 ng2 ng3 ng4 ng5)) (An := az) (I0 := (nrm i0v0 i0v1 i0v2 i0v3 i0h i0v5 i0w i0k i0g1 i0g2 i0g3 i0g4 i0g5)) (I1 := (nrm i1v0 i1v1 i1v2 i1v3 i1h i1v5 i1w i1k i1g1 i1g2 i1g3 i1g4 i1g5)) (nr0.trans y)).1.symm)
  | (have y := ((tX hL0 hg1 hg2 (by omega)).2 (by assumption)).1
     first | exact (xrs_01 (Lv := (nrm i0v0 i0v1 i0v2 i0v3 i0h i0v5 i0w i0k i0g1 i0g2 i0g3 i0g4 i0g5)) (An := az) (I0 := (nrm i0v0 i0v1 i0v2 i0v3 i0h i0v5 i0w i0k i0g1 i0g2 i0g3 i0g4 i0g5)) (I1 := (nrm i1v0 i1v1 i1v2 i1v3 i1h i1v5 i1w i1k i1g1 i1g2 i1g3 i1g4 i1g5)) (by rw [nr0]; exact y)).2.1.symm | exact (xrs_01 (Lv := (nrm i0v0 i0v1 i0v2 i0v3 i0h i0v5 i0w i0k i0g1 i0g2 i0g3 i0g4 i0g5)) (An := az) (I0 := (nrm i0v0 i0v1 i0v2 i0v3 i0h i0v5 i0w i0k i0g1 i0g2 i0g3 i0g4 i0g5)) (I1 := (nrm i1v0 i1v1 i1v2 i1v3 i1h i1v5 i1w i1k i1g1 i1g2 i1g3 i1g4 i1g5)) (by rw [nr0]; exact y)).2.2.symm | exact (nr_eq hg1 hg2 (by assumption) (by assumption) (by assumption) (by assumption) (by assumption)).trans (xrs_01 (Lv := (nrm nv0 nv1 nv2 nv3 nhh nv5 nww nkk ng1 ng2 ng3 ng4 ng5)) (An := az) (I0 := (nrm i0v0 i0v1 i0v2 i0v3 i0h i0v5 i0w i0k i0g1 i0g2 i0g3 i0g4 i0g5)) (I1 := (nrm i1v0 i1v1 i1v2 i1v3 i1h i1v5 i1w i1k i1g1 i1g2 i1g3 i1g4 i1g5)) (by rw [nr0]; exact y)).1.symm)
  | (have y := ((tX hL1 hg4 hg5 (by omega)).2 (by assumption)).1
     first | exact (xrs_11 (Lv := (nrm i0v0 i0v1 i0v2 i0v3 i0h i0v5 i0w i0k i0g1 i0g2 i0g3 i0g4 i0g5)) (An := az) (I0 := (nrm i0v0 i0v1 i0v2 i0v3 i0h i0v5 i0w i0k i0g1 i0g2 i0g3 i0g4 i0g5)) (I1 := (nrm i1v0 i1v1 i1v2 i1v3 i1h i1v5 i1w i1k i1g1 i1g2 i1g3 i1g4 i1g5)) (by rw [nr0]; exact y)).2.1.symm | exact (xrs_11 (Lv := (nrm i0v0 i0v1 i0v2 i0v3 i0h i0v5 i0w i0k i0g1 i0g2 i0g3 i0g4 i0g5)) (An := az) (I0 := (nrm i0v0 i0v1 i0v2 i0v3 i0h i0v5 i0w i0k i0g1 i0g2 i0g3 i0g4 i0g5)) (I1 := (nrm i1v0 i1v1 i1v2 i1v3 i1h i1v5 i1w i1k i1g1 i1g2 i1g3 i1g4 i1g5)) (by rw [nr0]; exact y)).2.2.symm | exact (nr_eq hg4 hg5 (by assumption) (by assumption) (by assumption) (by assumption) (by assumption)).trans (xrs_11 (Lv := (nrm nv0 nv1 nv2 nv3 nhh nv5 nww nkk ng1 ng2 ng3 ng4 ng5)) (An := az) (I0 := (nrm i0v0 i0v1 i0v2 i0v3 i0h i0v5 i0w i0k i0g1 i0g2 i0g3 i0g4 i0g5)) (I1 := (nrm i1v0 i1v1 i1v2 i1v3 i1h i1v5 i1w i1k i1g1 i1g2 i1g3 i1g4 i1g5)) (by rw [nr0]; exact y)).1.symm)
theorem lf_X7_restore_28 {nhh : Nat} {nww : Nat} {nkk : Nat} {fi : Nat → Option Nat} {i0 : Nat} {i0v0 : Int32} {i0v1 : Int32} {i0v2 : Int32} {i0v3 : Int32} {i0v5 : Int32} {i0h : Nat} {i0w : Nat} {i0k : Nat} {i0g1 : Nat → Int32} {i0g2 : Nat → Int32} {i0g3 : Nat → Int32} {i0g4 : Nat → Int32} {i0g5 : Nat → Int32} {i1 : Nat} {i1v0 : Int32} {i1v1 : Int32} {i1v2 : Int32} {i1v3 : Int32} {i1v5 : Int32} {i1h : Nat} {i1w : Nat} {i1k : Nat} {i1g1 : Nat → Int32} {i1g2 : Nat → Int32} {i1g3 : Nat → Int32} {i1g4 : Nat → Int32} {i1g5 : Nat → Int32} {az : Nat} (nhb : nhh ≤ 999) (nwb : nww ≤ 6) (nkb : nkk ≤ 6) (hi0 : fi 0 = some i0) (hi1 : fi 1 = some i1) (hg0 : i0h ≤ 999) (hg1 : i0w ≤ 6) (hg2 : i0k ≤ 6) (hg3 : i1h ≤ 999) (hg4 : i1w ≤ 6) (hg5 : i1k ≤ 6) (haz : az ≤ 24) (hL0 : okLv (nrm i0v0 i0v1 i0v2 i0v3 i0h i0v5 i0w i0k i0g1 i0g2 i0g3 i0g4 i0g5)) (hL1 : okLv (nrm i1v0 i1v1 i1v2 i1v3 i1h i1v5 i1w i1k i1g1 i1g2 i1g3 i1g4 i1g5)) (c_1 : ¬ ((1 : Int32) < 0)) (c_2 : (1 : Int32) < 2) (f_8_0_0 : ¬ 0 < i1v0) : (-1000002) = (a_rst (nrm i0v0 i0v1 i0v2 i0v3 i0h i0v5 i0w i0k i0g1 i0g2 i0g3 i0g4 i0g5) (nrm i1v0 i1v1 i1v2 i1v3 i1h i1v5 i1w i1k i1g1 i1g2 i1g3 i1g4 i1g5) (1 : Int32)) := by
  first
  | assumption
  | omega
  | (first | exact (xrs_b (Lv := (nrm i0v0 i0v1 i0v2 i0v3 i0h i0v5 i0w i0k i0g1 i0g2 i0g3 i0g4 i0g5)) (An := az) (I0 := (nrm i0v0 i0v1 i0v2 i0v3 i0h i0v5 i0w i0k i0g1 i0g2 i0g3 i0g4 i0g5)) (I1 := (nrm i1v0 i1v1 i1v2 i1v3 i1h i1v5 i1w i1k i1g1 i1g2 i1g3 i1g4 i1g5)) (Or.inl c_1)).2.1.symm | exact (xrs_b (Lv := (nrm i0v0 i0v1 i0v2 i0v3 i0h i0v5 i0w i0k i0g1 i0g2 i0g3 i0g4 i0g5)) (An := az) (I0 := (nrm i0v0 i0v1 i0v2 i0v3 i0h i0v5 i0w i0k i0g1 i0g2 i0g3 i0g4 i0g5)) (I1 := (nrm i1v0 i1v1 i1v2 i1v3 i1h i1v5 i1w i1k i1g1 i1g2 i1g3 i1g4 i1g5)) (Or.inl c_1)).2.2.symm | exact (xrs_b (Lv := (nrm nv0 nv1 nv2 nv3 nhh nv5 nww nkk ng1 ng2 ng3 ng4 ng5)) (An := az) (I0 := (nrm i0v0 i0v1 i0v2 i0v3 i0h i0v5 i0w i0k i0g1 i0g2 i0g3 i0g4 i0g5)) (I1 := (nrm i1v0 i1v1 i1v2 i1v3 i1h i1v5 i1w i1k i1g1 i1g2 i1g3 i1g4 i1g5)) (Or.inl c_1)).1.symm)
  | (first | exact (xrs_b (Lv := (nrm i0v0 i0v1 i0v2 i0v3 i0h i0v5 i0w i0k i0g1 i0g2 i0g3 i0g4 i0g5)) (An := az) (I0 := (nrm i0v0 i0v1 i0v2 i0v3 i0h i0v5 i0w i0k i0g1 i0g2 i0g3 i0g4 i0g5)) (I1 := (nrm i1v0 i1v1 i1v2 i1v3 i1h i1v5 i1w i1k i1g1 i1g2 i1g3 i1g4 i1g5)) (Or.inr c_2)).2.1.symm | exact (xrs_b (Lv := (nrm i0v0 i0v1 i0v2 i0v3 i0h i0v5 i0w i0k i0g1 i0g2 i0g3 i0g4 i0g5)) (An := az) (I0 := (nrm i0v0 i0v1 i0v2 i0v3 i0h i0v5 i0w i0k i0g1 i0g2 i0g3 i0g4 i0g5)) (I1 := (nrm i1v0 i1v1 i1v2 i1v3 i1h i1v5 i1w i1k i1g1 i1g2 i1g3 i1g4 i1g5)) (Or.inr c_2)).2.2.symm | exact (xrs_b (Lv := (nrm nv0 nv1 nv2 nv3 nhh nv5 nww nkk ng1 ng2 ng3 ng4 ng5)) (An := az) (I0 := (nrm i0v0 i0v1 i0v2 i0v3 i0h i0v5 i0w i0k i0g1 i0g2 i0g3 i0g4 i0g5)) (I1 := (nrm i1v0 i1v1 i1v2 i1v3 i1h i1v5 i1w i1k i1g1 i1g2 i1g3 i1g4 i1g5)) (Or.inr c_2)).1.symm)
  | (have y := ((tX hL0 hg1 hg2 (by omega)).1 (by assumption)).1
     first | exact (xrs_00 (Lv := (nrm i0v0 i0v1 i0v2 i0v3 i0h i0v5 i0w i0k i0g1 i0g2 i0g3 i0g4 i0g5)) (An := az) (I0 := (nrm i0v0 i0v1 i0v2 i0v3 i0h i0v5 i0w i0k i0g1 i0g2 i0g3 i0g4 i0g5)) (I1 := (nrm i1v0 i1v1 i1v2 i1v3 i1h i1v5 i1w i1k i1g1 i1g2 i1g3 i1g4 i1g5)) (nr0.trans y)).2.1.symm | exact (xrs_00 (Lv := (nrm i0v0 i0v1 i0v2 i0v3 i0h i0v5 i0w i0k i0g1 i0g2 i0g3 i0g4 i0g5)) (An := az) (I0 := (nrm i0v0 i0v1 i0v2 i0v3 i0h i0v5 i0w i0k i0g1 i0g2 i0g3 i0g4 i0g5)) (I1 := (nrm i1v0 i1v1 i1v2 i1v3 i1h i1v5 i1w i1k i1g1 i1g2 i1g3 i1g4 i1g5)) (nr0.trans y)).2.2.symm | exact (xrs_00 (Lv := (nrm nv0 nv1 nv2 nv3 nhh nv5 nww nkk ng1 ng2 ng3 ng4 ng5)) (An := az) (I0 := (nrm i0v0 i0v1 i0v2 i0v3 i0h i0v5 i0w i0k i0g1 i0g2 i0g3 i0g4 i0g5)) (I1 := (nrm i1v0 i1v1 i1v2 i1v3 i1h i1v5 i1w i1k i1g1 i1g2 i1g3 i1g4 i1g5)) (nr0.trans y)).1.symm)
  | (have y := ((tX hL1 hg4 hg5 (by omega)).1 (by assumption)).1
     first | exact (xrs_10 (Lv := (nrm i0v0 i0v1 i0v2 i0v3 i0h i0v5 i0w i0k i0g1 i0g2 i0g3 i0g4 i0g5)) (An := az) (I0 := (nrm i0v0 i0v1 i0v2 i0v3 i0h i0v5 i0w i0k i0g1 i0g2 i0g3 i0g4 i0g5)) (I1 := (nrm i1v0 i1v1 i1v2 i1v3 i1h i1v5 i1w i1k i1g1 i1g2 i1g3 i1g4 i1g5)) (nr0.trans y)).2.1.symm | exact (xrs_10 (Lv := (nrm i0v0 i0v1 i0v2 i0v3 i0h i0v5 i0w i0k i0g1 i0g2 i0g3 i0g4 i0g5)) (An := az) (I0 := (nrm i0v0 i0v1 i0v2 i0v3 i0h i0v5 i0w i0k i0g1 i0g2 i0g3 i0g4 i0g5)) (I1 := (nrm i1v0 i1v1 i1v2 i1v3 i1h i1v5 i1w i1k i1g1 i1g2 i1g3 i1g4 i1g5)) (nr0.trans y)).2.2.symm | exact (xrs_10 (Lv := (nrm nv0 nv1 nv2 nv3 nhh nv5 nww nkk ng1 ng2 ng3 ng4 ng5)) (An := az) (I0 := (nrm i0v0 i0v1 i0v2 i0v3 i0h i0v5 i0w i0k i0g1 i0g2 i0g3 i0g4 i0g5)) (I1 := (nrm i1v0 i1v1 i1v2 i1v3 i1h i1v5 i1w i1k i1g1 i1g2 i1g3 i1g4 i1g5)) (nr0.trans y)).1.symm)
  | (have y := ((tX hL0 hg1 hg2 (by omega)).2 (by assumption)).1
     first | exact (xrs_01 (Lv := (nrm i0v0 i0v1 i0v2 i0v3 i0h i0v5 i0w i0k i0g1 i0g2 i0g3 i0g4 i0g5)) (An := az) (I0 := (nrm i0v0 i0v1 i0v2 i0v3 i0h i0v5 i0w i0k i0g1 i0g2 i0g3 i0g4 i0g5)) (I1 := (nrm i1v0 i1v1 i1v2 i1v3 i1h i1v5 i1w i1k i1g1 i1g2 i1g3 i1g4 i1g5)) (by rw [nr0]; exact y)).2.1.symm | exact (xrs_01 (Lv := (nrm i0v0 i0v1 i0v2 i0v3 i0h i0v5 i0w i0k i0g1 i0g2 i0g3 i0g4 i0g5)) (An := az) (I0 := (nrm i0v0 i0v1 i0v2 i0v3 i0h i0v5 i0w i0k i0g1 i0g2 i0g3 i0g4 i0g5)) (I1 := (nrm i1v0 i1v1 i1v2 i1v3 i1h i1v5 i1w i1k i1g1 i1g2 i1g3 i1g4 i1g5)) (by rw [nr0]; exact y)).2.2.symm | exact (nr_eq hg1 hg2 (by assumption) (by assumption) (by assumption) (by assumption) (by assumption)).trans (xrs_01 (Lv := (nrm nv0 nv1 nv2 nv3 nhh nv5 nww nkk ng1 ng2 ng3 ng4 ng5)) (An := az) (I0 := (nrm i0v0 i0v1 i0v2 i0v3 i0h i0v5 i0w i0k i0g1 i0g2 i0g3 i0g4 i0g5)) (I1 := (nrm i1v0 i1v1 i1v2 i1v3 i1h i1v5 i1w i1k i1g1 i1g2 i1g3 i1g4 i1g5)) (by rw [nr0]; exact y)).1.symm)
  | (have y := ((tX hL1 hg4 hg5 (by omega)).2 (by assumption)).1
     first | exact (xrs_11 (Lv := (nrm i0v0 i0v1 i0v2 i0v3 i0h i0v5 i0w i0k i0g1 i0g2 i0g3 i0g4 i0g5)) (An := az) (I0 := (nrm i0v0 i0v1 i0v2 i0v3 i0h i0v5 i0w i0k i0g1 i0g2 i0g3 i0g4 i0g5)) (I1 := (nrm i1v0 i1v1 i1v2 i1v3 i1h i1v5 i1w i1k i1g1 i1g2 i1g3 i1g4 i1g5)) (by rw [nr0]; exact y)).2.1.symm | exact (xrs_11 (Lv := (nrm i0v0 i0v1 i0v2 i0v3 i0h i0v5 i0w i0k i0g1 i0g2 i0g3 i0g4 i0g5)) (An := az) (I0 := (nrm i0v0 i0v1 i0v2 i0v3 i0h i0v5 i0w i0k i0g1 i0g2 i0g3 i0g4 i0g5)) (I1 := (nrm i1v0 i1v1 i1v2 i1v3 i1h i1v5 i1w i1k i1g1 i1g2 i1g3 i1g4 i1g5)) (by rw [nr0]; exact y)).2.2.symm | exact (nr_eq hg4 hg5 (by assumption) (by assumption) (by assumption) (by assumption) (by assumption)).trans (xrs_11 (Lv := (nrm nv0 nv1 nv2 nv3 nhh nv5 nww nkk ng1 ng2 ng3 ng4 ng5)) (An := az) (I0 := (nrm i0v0 i0v1 i0v2 i0v3 i0h i0v5 i0w i0k i0g1 i0g2 i0g3 i0g4 i0g5)) (I1 := (nrm i1v0 i1v1 i1v2 i1v3 i1h i1v5 i1w i1k i1g1 i1g2 i1g3 i1g4 i1g5)) (by rw [nr0]; exact y)).1.symm)
theorem lf_X7_restore_29 {nhh : Nat} {nww : Nat} {nkk : Nat} {fi : Nat → Option Nat} {i0 : Nat} {i0v0 : Int32} {i0v1 : Int32} {i0v2 : Int32} {i0v3 : Int32} {i0v5 : Int32} {i0h : Nat} {i0w : Nat} {i0k : Nat} {i0g1 : Nat → Int32} {i0g2 : Nat → Int32} {i0g3 : Nat → Int32} {i0g4 : Nat → Int32} {i0g5 : Nat → Int32} {i1 : Nat} {i1v0 : Int32} {i1v1 : Int32} {i1v2 : Int32} {i1v3 : Int32} {i1v5 : Int32} {i1h : Nat} {i1w : Nat} {i1k : Nat} {i1g1 : Nat → Int32} {i1g2 : Nat → Int32} {i1g3 : Nat → Int32} {i1g4 : Nat → Int32} {i1g5 : Nat → Int32} {az : Nat} {f1n_11 : Nat → Int32} {f2n_11 : Nat → Int32} {f3n_11 : Nat → Int32} {f4n_11 : Nat → Int32} {f5n_11 : Nat → Int32} (nhb : nhh ≤ 999) (nwb : nww ≤ 6) (nkb : nkk ≤ 6) (hi0 : fi 0 = some i0) (hi1 : fi 1 = some i1) (hg0 : i0h ≤ 999) (hg1 : i0w ≤ 6) (hg2 : i0k ≤ 6) (hg3 : i1h ≤ 999) (hg4 : i1w ≤ 6) (hg5 : i1k ≤ 6) (haz : az ≤ 24) (hL0 : okLv (nrm i0v0 i0v1 i0v2 i0v3 i0h i0v5 i0w i0k i0g1 i0g2 i0g3 i0g4 i0g5)) (hL1 : okLv (nrm i1v0 i1v1 i1v2 i1v3 i1h i1v5 i1w i1k i1g1 i1g2 i1g3 i1g4 i1g5)) (c_1 : ¬ ((1 : Int32) < 0)) (c_2 : (1 : Int32) < 2) (f_8_1_0 : 0 < i1v0) (hF_11_0 : (∀ jq : Nat, jq < 6 → f1n_11 jq = i1g1 jq)) (hF_11_1 : (∀ jq : Nat, jq < 6 → f2n_11 jq = i1g2 jq)) (hF_11_2 : (∀ jq : Nat, jq < 6 → f3n_11 jq = i1g3 jq)) (hF_11_3 : (∀ jq : Nat, jq < 6 → f4n_11 jq = i1g4 jq)) (hF_11_4 : (∀ jq : Nat, jq < 6 → f5n_11 jq = i1g5 jq)) : i1h ≤ 999 := by
  first
  | assumption
  | omega
  | (first | exact (xrs_b (Lv := (nrm i0v0 i0v1 i0v2 i0v3 i0h i0v5 i0w i0k i0g1 i0g2 i0g3 i0g4 i0g5)) (An := az) (I0 := (nrm i0v0 i0v1 i0v2 i0v3 i0h i0v5 i0w i0k i0g1 i0g2 i0g3 i0g4 i0g5)) (I1 := (nrm i1v0 i1v1 i1v2 i1v3 i1h i1v5 i1w i1k i1g1 i1g2 i1g3 i1g4 i1g5)) (Or.inl c_1)).2.1.symm | exact (xrs_b (Lv := (nrm i0v0 i0v1 i0v2 i0v3 i0h i0v5 i0w i0k i0g1 i0g2 i0g3 i0g4 i0g5)) (An := az) (I0 := (nrm i0v0 i0v1 i0v2 i0v3 i0h i0v5 i0w i0k i0g1 i0g2 i0g3 i0g4 i0g5)) (I1 := (nrm i1v0 i1v1 i1v2 i1v3 i1h i1v5 i1w i1k i1g1 i1g2 i1g3 i1g4 i1g5)) (Or.inl c_1)).2.2.symm | exact (xrs_b (Lv := (nrm nv0 nv1 nv2 nv3 nhh nv5 nww nkk ng1 ng2 ng3 ng4 ng5)) (An := az) (I0 := (nrm i0v0 i0v1 i0v2 i0v3 i0h i0v5 i0w i0k i0g1 i0g2 i0g3 i0g4 i0g5)) (I1 := (nrm i1v0 i1v1 i1v2 i1v3 i1h i1v5 i1w i1k i1g1 i1g2 i1g3 i1g4 i1g5)) (Or.inl c_1)).1.symm)
  | (first | exact (xrs_b (Lv := (nrm i0v0 i0v1 i0v2 i0v3 i0h i0v5 i0w i0k i0g1 i0g2 i0g3 i0g4 i0g5)) (An := az) (I0 := (nrm i0v0 i0v1 i0v2 i0v3 i0h i0v5 i0w i0k i0g1 i0g2 i0g3 i0g4 i0g5)) (I1 := (nrm i1v0 i1v1 i1v2 i1v3 i1h i1v5 i1w i1k i1g1 i1g2 i1g3 i1g4 i1g5)) (Or.inr c_2)).2.1.symm | exact (xrs_b (Lv := (nrm i0v0 i0v1 i0v2 i0v3 i0h i0v5 i0w i0k i0g1 i0g2 i0g3 i0g4 i0g5)) (An := az) (I0 := (nrm i0v0 i0v1 i0v2 i0v3 i0h i0v5 i0w i0k i0g1 i0g2 i0g3 i0g4 i0g5)) (I1 := (nrm i1v0 i1v1 i1v2 i1v3 i1h i1v5 i1w i1k i1g1 i1g2 i1g3 i1g4 i1g5)) (Or.inr c_2)).2.2.symm | exact (xrs_b (Lv := (nrm nv0 nv1 nv2 nv3 nhh nv5 nww nkk ng1 ng2 ng3 ng4 ng5)) (An := az) (I0 := (nrm i0v0 i0v1 i0v2 i0v3 i0h i0v5 i0w i0k i0g1 i0g2 i0g3 i0g4 i0g5)) (I1 := (nrm i1v0 i1v1 i1v2 i1v3 i1h i1v5 i1w i1k i1g1 i1g2 i1g3 i1g4 i1g5)) (Or.inr c_2)).1.symm)
  | (have y := ((tX hL0 hg1 hg2 (by omega)).1 (by assumption)).1
     first | exact (xrs_00 (Lv := (nrm i0v0 i0v1 i0v2 i0v3 i0h i0v5 i0w i0k i0g1 i0g2 i0g3 i0g4 i0g5)) (An := az) (I0 := (nrm i0v0 i0v1 i0v2 i0v3 i0h i0v5 i0w i0k i0g1 i0g2 i0g3 i0g4 i0g5)) (I1 := (nrm i1v0 i1v1 i1v2 i1v3 i1h i1v5 i1w i1k i1g1 i1g2 i1g3 i1g4 i1g5)) (nr0.trans y)).2.1.symm | exact (xrs_00 (Lv := (nrm i0v0 i0v1 i0v2 i0v3 i0h i0v5 i0w i0k i0g1 i0g2 i0g3 i0g4 i0g5)) (An := az) (I0 := (nrm i0v0 i0v1 i0v2 i0v3 i0h i0v5 i0w i0k i0g1 i0g2 i0g3 i0g4 i0g5)) (I1 := (nrm i1v0 i1v1 i1v2 i1v3 i1h i1v5 i1w i1k i1g1 i1g2 i1g3 i1g4 i1g5)) (nr0.trans y)).2.2.symm | exact (xrs_00 (Lv := (nrm nv0 nv1 nv2 nv3 nhh nv5 nww nkk ng1 ng2 ng3 ng4 ng5)) (An := az) (I0 := (nrm i0v0 i0v1 i0v2 i0v3 i0h i0v5 i0w i0k i0g1 i0g2 i0g3 i0g4 i0g5)) (I1 := (nrm i1v0 i1v1 i1v2 i1v3 i1h i1v5 i1w i1k i1g1 i1g2 i1g3 i1g4 i1g5)) (nr0.trans y)).1.symm)
  | (have y := ((tX hL1 hg4 hg5 (by omega)).1 (by assumption)).1
     first | exact (xrs_10 (Lv := (nrm i0v0 i0v1 i0v2 i0v3 i0h i0v5 i0w i0k i0g1 i0g2 i0g3 i0g4 i0g5)) (An := az) (I0 := (nrm i0v0 i0v1 i0v2 i0v3 i0h i0v5 i0w i0k i0g1 i0g2 i0g3 i0g4 i0g5)) (I1 := (nrm i1v0 i1v1 i1v2 i1v3 i1h i1v5 i1w i1k i1g1 i1g2 i1g3 i1g4 i1g5)) (nr0.trans y)).2.1.symm | exact (xrs_10 (Lv := (nrm i0v0 i0v1 i0v2 i0v3 i0h i0v5 i0w i0k i0g1 i0g2 i0g3 i0g4 i0g5)) (An := az) (I0 := (nrm i0v0 i0v1 i0v2 i0v3 i0h i0v5 i0w i0k i0g1 i0g2 i0g3 i0g4 i0g5)) (I1 := (nrm i1v0 i1v1 i1v2 i1v3 i1h i1v5 i1w i1k i1g1 i1g2 i1g3 i1g4 i1g5)) (nr0.trans y)).2.2.symm | exact (xrs_10 (Lv := (nrm nv0 nv1 nv2 nv3 nhh nv5 nww nkk ng1 ng2 ng3 ng4 ng5)) (An := az) (I0 := (nrm i0v0 i0v1 i0v2 i0v3 i0h i0v5 i0w i0k i0g1 i0g2 i0g3 i0g4 i0g5)) (I1 := (nrm i1v0 i1v1 i1v2 i1v3 i1h i1v5 i1w i1k i1g1 i1g2 i1g3 i1g4 i1g5)) (nr0.trans y)).1.symm)
  | (have y := ((tX hL0 hg1 hg2 (by omega)).2 (by assumption)).1
     first | exact (xrs_01 (Lv := (nrm i0v0 i0v1 i0v2 i0v3 i0h i0v5 i0w i0k i0g1 i0g2 i0g3 i0g4 i0g5)) (An := az) (I0 := (nrm i0v0 i0v1 i0v2 i0v3 i0h i0v5 i0w i0k i0g1 i0g2 i0g3 i0g4 i0g5)) (I1 := (nrm i1v0 i1v1 i1v2 i1v3 i1h i1v5 i1w i1k i1g1 i1g2 i1g3 i1g4 i1g5)) (by rw [nr0]; exact y)).2.1.symm | exact (xrs_01 (Lv := (nrm i0v0 i0v1 i0v2 i0v3 i0h i0v5 i0w i0k i0g1 i0g2 i0g3 i0g4 i0g5)) (An := az) (I0 := (nrm i0v0 i0v1 i0v2 i0v3 i0h i0v5 i0w i0k i0g1 i0g2 i0g3 i0g4 i0g5)) (I1 := (nrm i1v0 i1v1 i1v2 i1v3 i1h i1v5 i1w i1k i1g1 i1g2 i1g3 i1g4 i1g5)) (by rw [nr0]; exact y)).2.2.symm | exact (nr_eq hg1 hg2 (by assumption) (by assumption) (by assumption) (by assumption) (by assumption)).trans (xrs_01 (Lv := (nrm nv0 nv1 nv2 nv3 nhh nv5 nww nkk ng1 ng2 ng3 ng4 ng5)) (An := az) (I0 := (nrm i0v0 i0v1 i0v2 i0v3 i0h i0v5 i0w i0k i0g1 i0g2 i0g3 i0g4 i0g5)) (I1 := (nrm i1v0 i1v1 i1v2 i1v3 i1h i1v5 i1w i1k i1g1 i1g2 i1g3 i1g4 i1g5)) (by rw [nr0]; exact y)).1.symm)
  | (have y := ((tX hL1 hg4 hg5 (by omega)).2 (by assumption)).1
     first | exact (xrs_11 (Lv := (nrm i0v0 i0v1 i0v2 i0v3 i0h i0v5 i0w i0k i0g1 i0g2 i0g3 i0g4 i0g5)) (An := az) (I0 := (nrm i0v0 i0v1 i0v2 i0v3 i0h i0v5 i0w i0k i0g1 i0g2 i0g3 i0g4 i0g5)) (I1 := (nrm i1v0 i1v1 i1v2 i1v3 i1h i1v5 i1w i1k i1g1 i1g2 i1g3 i1g4 i1g5)) (by rw [nr0]; exact y)).2.1.symm | exact (xrs_11 (Lv := (nrm i0v0 i0v1 i0v2 i0v3 i0h i0v5 i0w i0k i0g1 i0g2 i0g3 i0g4 i0g5)) (An := az) (I0 := (nrm i0v0 i0v1 i0v2 i0v3 i0h i0v5 i0w i0k i0g1 i0g2 i0g3 i0g4 i0g5)) (I1 := (nrm i1v0 i1v1 i1v2 i1v3 i1h i1v5 i1w i1k i1g1 i1g2 i1g3 i1g4 i1g5)) (by rw [nr0]; exact y)).2.2.symm | exact (nr_eq hg4 hg5 (by assumption) (by assumption) (by assumption) (by assumption) (by assumption)).trans (xrs_11 (Lv := (nrm nv0 nv1 nv2 nv3 nhh nv5 nww nkk ng1 ng2 ng3 ng4 ng5)) (An := az) (I0 := (nrm i0v0 i0v1 i0v2 i0v3 i0h i0v5 i0w i0k i0g1 i0g2 i0g3 i0g4 i0g5)) (I1 := (nrm i1v0 i1v1 i1v2 i1v3 i1h i1v5 i1w i1k i1g1 i1g2 i1g3 i1g4 i1g5)) (by rw [nr0]; exact y)).1.symm)
theorem lf_X7_restore_30 {nhh : Nat} {nww : Nat} {nkk : Nat} {fi : Nat → Option Nat} {i0 : Nat} {i0v0 : Int32} {i0v1 : Int32} {i0v2 : Int32} {i0v3 : Int32} {i0v5 : Int32} {i0h : Nat} {i0w : Nat} {i0k : Nat} {i0g1 : Nat → Int32} {i0g2 : Nat → Int32} {i0g3 : Nat → Int32} {i0g4 : Nat → Int32} {i0g5 : Nat → Int32} {i1 : Nat} {i1v0 : Int32} {i1v1 : Int32} {i1v2 : Int32} {i1v3 : Int32} {i1v5 : Int32} {i1h : Nat} {i1w : Nat} {i1k : Nat} {i1g1 : Nat → Int32} {i1g2 : Nat → Int32} {i1g3 : Nat → Int32} {i1g4 : Nat → Int32} {i1g5 : Nat → Int32} {az : Nat} {f1n_11 : Nat → Int32} {f2n_11 : Nat → Int32} {f3n_11 : Nat → Int32} {f4n_11 : Nat → Int32} {f5n_11 : Nat → Int32} (nhb : nhh ≤ 999) (nwb : nww ≤ 6) (nkb : nkk ≤ 6) (hi0 : fi 0 = some i0) (hi1 : fi 1 = some i1) (hg0 : i0h ≤ 999) (hg1 : i0w ≤ 6) (hg2 : i0k ≤ 6) (hg3 : i1h ≤ 999) (hg4 : i1w ≤ 6) (hg5 : i1k ≤ 6) (haz : az ≤ 24) (hL0 : okLv (nrm i0v0 i0v1 i0v2 i0v3 i0h i0v5 i0w i0k i0g1 i0g2 i0g3 i0g4 i0g5)) (hL1 : okLv (nrm i1v0 i1v1 i1v2 i1v3 i1h i1v5 i1w i1k i1g1 i1g2 i1g3 i1g4 i1g5)) (c_1 : ¬ ((1 : Int32) < 0)) (c_2 : (1 : Int32) < 2) (f_8_1_0 : 0 < i1v0) (hF_11_0 : (∀ jq : Nat, jq < 6 → f1n_11 jq = i1g1 jq)) (hF_11_1 : (∀ jq : Nat, jq < 6 → f2n_11 jq = i1g2 jq)) (hF_11_2 : (∀ jq : Nat, jq < 6 → f3n_11 jq = i1g3 jq)) (hF_11_3 : (∀ jq : Nat, jq < 6 → f4n_11 jq = i1g4 jq)) (hF_11_4 : (∀ jq : Nat, jq < 6 → f5n_11 jq = i1g5 jq)) : i1w ≤ 6 := by
  first
  | assumption
  | omega
  | (first | exact (xrs_b (Lv := (nrm i0v0 i0v1 i0v2 i0v3 i0h i0v5 i0w i0k i0g1 i0g2 i0g3 i0g4 i0g5)) (An := az) (I0 := (nrm i0v0 i0v1 i0v2 i0v3 i0h i0v5 i0w i0k i0g1 i0g2 i0g3 i0g4 i0g5)) (I1 := (nrm i1v0 i1v1 i1v2 i1v3 i1h i1v5 i1w i1k i1g1 i1g2 i1g3 i1g4 i1g5)) (Or.inl c_1)).2.1.symm | exact (xrs_b (Lv := (nrm i0v0 i0v1 i0v2 i0v3 i0h i0v5 i0w i0k i0g1 i0g2 i0g3 i0g4 i0g5)) (An := az) (I0 := (nrm i0v0 i0v1 i0v2 i0v3 i0h i0v5 i0w i0k i0g1 i0g2 i0g3 i0g4 i0g5)) (I1 := (nrm i1v0 i1v1 i1v2 i1v3 i1h i1v5 i1w i1k i1g1 i1g2 i1g3 i1g4 i1g5)) (Or.inl c_1)).2.2.symm | exact (xrs_b (Lv := (nrm nv0 nv1 nv2 nv3 nhh nv5 nww nkk ng1 ng2 ng3 ng4 ng5)) (An := az) (I0 := (nrm i0v0 i0v1 i0v2 i0v3 i0h i0v5 i0w i0k i0g1 i0g2 i0g3 i0g4 i0g5)) (I1 := (nrm i1v0 i1v1 i1v2 i1v3 i1h i1v5 i1w i1k i1g1 i1g2 i1g3 i1g4 i1g5)) (Or.inl c_1)).1.symm)
  | (first | exact (xrs_b (Lv := (nrm i0v0 i0v1 i0v2 i0v3 i0h i0v5 i0w i0k i0g1 i0g2 i0g3 i0g4 i0g5)) (An := az) (I0 := (nrm i0v0 i0v1 i0v2 i0v3 i0h i0v5 i0w i0k i0g1 i0g2 i0g3 i0g4 i0g5)) (I1 := (nrm i1v0 i1v1 i1v2 i1v3 i1h i1v5 i1w i1k i1g1 i1g2 i1g3 i1g4 i1g5)) (Or.inr c_2)).2.1.symm | exact (xrs_b (Lv := (nrm i0v0 i0v1 i0v2 i0v3 i0h i0v5 i0w i0k i0g1 i0g2 i0g3 i0g4 i0g5)) (An := az) (I0 := (nrm i0v0 i0v1 i0v2 i0v3 i0h i0v5 i0w i0k i0g1 i0g2 i0g3 i0g4 i0g5)) (I1 := (nrm i1v0 i1v1 i1v2 i1v3 i1h i1v5 i1w i1k i1g1 i1g2 i1g3 i1g4 i1g5)) (Or.inr c_2)).2.2.symm | exact (xrs_b (Lv := (nrm nv0 nv1 nv2 nv3 nhh nv5 nww nkk ng1 ng2 ng3 ng4 ng5)) (An := az) (I0 := (nrm i0v0 i0v1 i0v2 i0v3 i0h i0v5 i0w i0k i0g1 i0g2 i0g3 i0g4 i0g5)) (I1 := (nrm i1v0 i1v1 i1v2 i1v3 i1h i1v5 i1w i1k i1g1 i1g2 i1g3 i1g4 i1g5)) (Or.inr c_2)).1.symm)
  | (have y := ((tX hL0 hg1 hg2 (by omega)).1 (by assumption)).1
     first | exact (xrs_00 (Lv := (nrm i0v0 i0v1 i0v2 i0v3 i0h i0v5 i0w i0k i0g1 i0g2 i0g3 i0g4 i0g5)) (An := az) (I0 := (nrm i0v0 i0v1 i0v2 i0v3 i0h i0v5 i0w i0k i0g1 i0g2 i0g3 i0g4 i0g5)) (I1 := (nrm i1v0 i1v1 i1v2 i1v3 i1h i1v5 i1w i1k i1g1 i1g2 i1g3 i1g4 i1g5)) (nr0.trans y)).2.1.symm | exact (xrs_00 (Lv := (nrm i0v0 i0v1 i0v2 i0v3 i0h i0v5 i0w i0k i0g1 i0g2 i0g3 i0g4 i0g5)) (An := az) (I0 := (nrm i0v0 i0v1 i0v2 i0v3 i0h i0v5 i0w i0k i0g1 i0g2 i0g3 i0g4 i0g5)) (I1 := (nrm i1v0 i1v1 i1v2 i1v3 i1h i1v5 i1w i1k i1g1 i1g2 i1g3 i1g4 i1g5)) (nr0.trans y)).2.2.symm | exact (xrs_00 (Lv := (nrm nv0 nv1 nv2 nv3 nhh nv5 nww nkk ng1 ng2 ng3 ng4 ng5)) (An := az) (I0 := (nrm i0v0 i0v1 i0v2 i0v3 i0h i0v5 i0w i0k i0g1 i0g2 i0g3 i0g4 i0g5)) (I1 := (nrm i1v0 i1v1 i1v2 i1v3 i1h i1v5 i1w i1k i1g1 i1g2 i1g3 i1g4 i1g5)) (nr0.trans y)).1.symm)
  | (have y := ((tX hL1 hg4 hg5 (by omega)).1 (by assumption)).1
     first | exact (xrs_10 (Lv := (nrm i0v0 i0v1 i0v2 i0v3 i0h i0v5 i0w i0k i0g1 i0g2 i0g3 i0g4 i0g5)) (An := az) (I0 := (nrm i0v0 i0v1 i0v2 i0v3 i0h i0v5 i0w i0k i0g1 i0g2 i0g3 i0g4 i0g5)) (I1 := (nrm i1v0 i1v1 i1v2 i1v3 i1h i1v5 i1w i1k i1g1 i1g2 i1g3 i1g4 i1g5)) (nr0.trans y)).2.1.symm | exact (xrs_10 (Lv := (nrm i0v0 i0v1 i0v2 i0v3 i0h i0v5 i0w i0k i0g1 i0g2 i0g3 i0g4 i0g5)) (An := az) (I0 := (nrm i0v0 i0v1 i0v2 i0v3 i0h i0v5 i0w i0k i0g1 i0g2 i0g3 i0g4 i0g5)) (I1 := (nrm i1v0 i1v1 i1v2 i1v3 i1h i1v5 i1w i1k i1g1 i1g2 i1g3 i1g4 i1g5)) (nr0.trans y)).2.2.symm | exact (xrs_10 (Lv := (nrm nv0 nv1 nv2 nv3 nhh nv5 nww nkk ng1 ng2 ng3 ng4 ng5)) (An := az) (I0 := (nrm i0v0 i0v1 i0v2 i0v3 i0h i0v5 i0w i0k i0g1 i0g2 i0g3 i0g4 i0g5)) (I1 := (nrm i1v0 i1v1 i1v2 i1v3 i1h i1v5 i1w i1k i1g1 i1g2 i1g3 i1g4 i1g5)) (nr0.trans y)).1.symm)
  | (have y := ((tX hL0 hg1 hg2 (by omega)).2 (by assumption)).1
     first | exact (xrs_01 (Lv := (nrm i0v0 i0v1 i0v2 i0v3 i0h i0v5 i0w i0k i0g1 i0g2 i0g3 i0g4 i0g5)) (An := az) (I0 := (nrm i0v0 i0v1 i0v2 i0v3 i0h i0v5 i0w i0k i0g1 i0g2 i0g3 i0g4 i0g5)) (I1 := (nrm i1v0 i1v1 i1v2 i1v3 i1h i1v5 i1w i1k i1g1 i1g2 i1g3 i1g4 i1g5)) (by rw [nr0]; exact y)).2.1.symm | exact (xrs_01 (Lv := (nrm i0v0 i0v1 i0v2 i0v3 i0h i0v5 i0w i0k i0g1 i0g2 i0g3 i0g4 i0g5)) (An := az) (I0 := (nrm i0v0 i0v1 i0v2 i0v3 i0h i0v5 i0w i0k i0g1 i0g2 i0g3 i0g4 i0g5)) (I1 := (nrm i1v0 i1v1 i1v2 i1v3 i1h i1v5 i1w i1k i1g1 i1g2 i1g3 i1g4 i1g5)) (by rw [nr0]; exact y)).2.2.symm | exact (nr_eq hg1 hg2 (by assumption) (by assumption) (by assumption) (by assumption) (by assumption)).trans (xrs_01 (Lv := (nrm nv0 nv1 nv2 nv3 nhh nv5 nww nkk ng1 ng2 ng3 ng4 ng5)) (An := az) (I0 := (nrm i0v0 i0v1 i0v2 i0v3 i0h i0v5 i0w i0k i0g1 i0g2 i0g3 i0g4 i0g5)) (I1 := (nrm i1v0 i1v1 i1v2 i1v3 i1h i1v5 i1w i1k i1g1 i1g2 i1g3 i1g4 i1g5)) (by rw [nr0]; exact y)).1.symm)
  | (have y := ((tX hL1 hg4 hg5 (by omega)).2 (by assumption)).1
     first | exact (xrs_11 (Lv := (nrm i0v0 i0v1 i0v2 i0v3 i0h i0v5 i0w i0k i0g1 i0g2 i0g3 i0g4 i0g5)) (An := az) (I0 := (nrm i0v0 i0v1 i0v2 i0v3 i0h i0v5 i0w i0k i0g1 i0g2 i0g3 i0g4 i0g5)) (I1 := (nrm i1v0 i1v1 i1v2 i1v3 i1h i1v5 i1w i1k i1g1 i1g2 i1g3 i1g4 i1g5)) (by rw [nr0]; exact y)).2.1.symm | exact (xrs_11 (Lv := (nrm i0v0 i0v1 i0v2 i0v3 i0h i0v5 i0w i0k i0g1 i0g2 i0g3 i0g4 i0g5)) (An := az) (I0 := (nrm i0v0 i0v1 i0v2 i0v3 i0h i0v5 i0w i0k i0g1 i0g2 i0g3 i0g4 i0g5)) (I1 := (nrm i1v0 i1v1 i1v2 i1v3 i1h i1v5 i1w i1k i1g1 i1g2 i1g3 i1g4 i1g5)) (by rw [nr0]; exact y)).2.2.symm | exact (nr_eq hg4 hg5 (by assumption) (by assumption) (by assumption) (by assumption) (by assumption)).trans (xrs_11 (Lv := (nrm nv0 nv1 nv2 nv3 nhh nv5 nww nkk ng1 ng2 ng3 ng4 ng5)) (An := az) (I0 := (nrm i0v0 i0v1 i0v2 i0v3 i0h i0v5 i0w i0k i0g1 i0g2 i0g3 i0g4 i0g5)) (I1 := (nrm i1v0 i1v1 i1v2 i1v3 i1h i1v5 i1w i1k i1g1 i1g2 i1g3 i1g4 i1g5)) (by rw [nr0]; exact y)).1.symm)
theorem lf_X7_restore_31 {nhh : Nat} {nww : Nat} {nkk : Nat} {fi : Nat → Option Nat} {i0 : Nat} {i0v0 : Int32} {i0v1 : Int32} {i0v2 : Int32} {i0v3 : Int32} {i0v5 : Int32} {i0h : Nat} {i0w : Nat} {i0k : Nat} {i0g1 : Nat → Int32} {i0g2 : Nat → Int32} {i0g3 : Nat → Int32} {i0g4 : Nat → Int32} {i0g5 : Nat → Int32} {i1 : Nat} {i1v0 : Int32} {i1v1 : Int32} {i1v2 : Int32} {i1v3 : Int32} {i1v5 : Int32} {i1h : Nat} {i1w : Nat} {i1k : Nat} {i1g1 : Nat → Int32} {i1g2 : Nat → Int32} {i1g3 : Nat → Int32} {i1g4 : Nat → Int32} {i1g5 : Nat → Int32} {az : Nat} {f1n_11 : Nat → Int32} {f2n_11 : Nat → Int32} {f3n_11 : Nat → Int32} {f4n_11 : Nat → Int32} {f5n_11 : Nat → Int32} (nhb : nhh ≤ 999) (nwb : nww ≤ 6) (nkb : nkk ≤ 6) (hi0 : fi 0 = some i0) (hi1 : fi 1 = some i1) (hg0 : i0h ≤ 999) (hg1 : i0w ≤ 6) (hg2 : i0k ≤ 6) (hg3 : i1h ≤ 999) (hg4 : i1w ≤ 6) (hg5 : i1k ≤ 6) (haz : az ≤ 24) (hL0 : okLv (nrm i0v0 i0v1 i0v2 i0v3 i0h i0v5 i0w i0k i0g1 i0g2 i0g3 i0g4 i0g5)) (hL1 : okLv (nrm i1v0 i1v1 i1v2 i1v3 i1h i1v5 i1w i1k i1g1 i1g2 i1g3 i1g4 i1g5)) (c_1 : ¬ ((1 : Int32) < 0)) (c_2 : (1 : Int32) < 2) (f_8_1_0 : 0 < i1v0) (hF_11_0 : (∀ jq : Nat, jq < 6 → f1n_11 jq = i1g1 jq)) (hF_11_1 : (∀ jq : Nat, jq < 6 → f2n_11 jq = i1g2 jq)) (hF_11_2 : (∀ jq : Nat, jq < 6 → f3n_11 jq = i1g3 jq)) (hF_11_3 : (∀ jq : Nat, jq < 6 → f4n_11 jq = i1g4 jq)) (hF_11_4 : (∀ jq : Nat, jq < 6 → f5n_11 jq = i1g5 jq)) : i1k ≤ 6 := by
  first
  | assumption
  | omega
  | (first | exact (xrs_b (Lv := (nrm i0v0 i0v1 i0v2 i0v3 i0h i0v5 i0w i0k i0g1 i0g2 i0g3 i0g4 i0g5)) (An := az) (I0 := (nrm i0v0 i0v1 i0v2 i0v3 i0h i0v5 i0w i0k i0g1 i0g2 i0g3 i0g4 i0g5)) (I1 := (nrm i1v0 i1v1 i1v2 i1v3 i1h i1v5 i1w i1k i1g1 i1g2 i1g3 i1g4 i1g5)) (Or.inl c_1)).2.1.symm | exact (xrs_b (Lv := (nrm i0v0 i0v1 i0v2 i0v3 i0h i0v5 i0w i0k i0g1 i0g2 i0g3 i0g4 i0g5)) (An := az) (I0 := (nrm i0v0 i0v1 i0v2 i0v3 i0h i0v5 i0w i0k i0g1 i0g2 i0g3 i0g4 i0g5)) (I1 := (nrm i1v0 i1v1 i1v2 i1v3 i1h i1v5 i1w i1k i1g1 i1g2 i1g3 i1g4 i1g5)) (Or.inl c_1)).2.2.symm | exact (xrs_b (Lv := (nrm nv0 nv1 nv2 nv3 nhh nv5 nww nkk ng1 ng2 ng3 ng4 ng5)) (An := az) (I0 := (nrm i0v0 i0v1 i0v2 i0v3 i0h i0v5 i0w i0k i0g1 i0g2 i0g3 i0g4 i0g5)) (I1 := (nrm i1v0 i1v1 i1v2 i1v3 i1h i1v5 i1w i1k i1g1 i1g2 i1g3 i1g4 i1g5)) (Or.inl c_1)).1.symm)
  | (first | exact (xrs_b (Lv := (nrm i0v0 i0v1 i0v2 i0v3 i0h i0v5 i0w i0k i0g1 i0g2 i0g3 i0g4 i0g5)) (An := az) (I0 := (nrm i0v0 i0v1 i0v2 i0v3 i0h i0v5 i0w i0k i0g1 i0g2 i0g3 i0g4 i0g5)) (I1 := (nrm i1v0 i1v1 i1v2 i1v3 i1h i1v5 i1w i1k i1g1 i1g2 i1g3 i1g4 i1g5)) (Or.inr c_2)).2.1.symm | exact (xrs_b (Lv := (nrm i0v0 i0v1 i0v2 i0v3 i0h i0v5 i0w i0k i0g1 i0g2 i0g3 i0g4 i0g5)) (An := az) (I0 := (nrm i0v0 i0v1 i0v2 i0v3 i0h i0v5 i0w i0k i0g1 i0g2 i0g3 i0g4 i0g5)) (I1 := (nrm i1v0 i1v1 i1v2 i1v3 i1h i1v5 i1w i1k i1g1 i1g2 i1g3 i1g4 i1g5)) (Or.inr c_2)).2.2.symm | exact (xrs_b (Lv := (nrm nv0 nv1 nv2 nv3 nhh nv5 nww nkk ng1 ng2 ng3 ng4 ng5)) (An := az) (I0 := (nrm i0v0 i0v1 i0v2 i0v3 i0h i0v5 i0w i0k i0g1 i0g2 i0g3 i0g4 i0g5)) (I1 := (nrm i1v0 i1v1 i1v2 i1v3 i1h i1v5 i1w i1k i1g1 i1g2 i1g3 i1g4 i1g5)) (Or.inr c_2)).1.symm)
  | (have y := ((tX hL0 hg1 hg2 (by omega)).1 (by assumption)).1
     first | exact (xrs_00 (Lv := (nrm i0v0 i0v1 i0v2 i0v3 i0h i0v5 i0w i0k i0g1 i0g2 i0g3 i0g4 i0g5)) (An := az) (I0 := (nrm i0v0 i0v1 i0v2 i0v3 i0h i0v5 i0w i0k i0g1 i0g2 i0g3 i0g4 i0g5)) (I1 := (nrm i1v0 i1v1 i1v2 i1v3 i1h i1v5 i1w i1k i1g1 i1g2 i1g3 i1g4 i1g5)) (nr0.trans y)).2.1.symm | exact (xrs_00 (Lv := (nrm i0v0 i0v1 i0v2 i0v3 i0h i0v5 i0w i0k i0g1 i0g2 i0g3 i0g4 i0g5)) (An := az) (I0 := (nrm i0v0 i0v1 i0v2 i0v3 i0h i0v5 i0w i0k i0g1 i0g2 i0g3 i0g4 i0g5)) (I1 := (nrm i1v0 i1v1 i1v2 i1v3 i1h i1v5 i1w i1k i1g1 i1g2 i1g3 i1g4 i1g5)) (nr0.trans y)).2.2.symm | exact (xrs_00 (Lv := (nrm nv0 nv1 nv2 nv3 nhh nv5 nww nkk ng1 ng2 ng3 ng4 ng5)) (An := az) (I0 := (nrm i0v0 i0v1 i0v2 i0v3 i0h i0v5 i0w i0k i0g1 i0g2 i0g3 i0g4 i0g5)) (I1 := (nrm i1v0 i1v1 i1v2 i1v3 i1h i1v5 i1w i1k i1g1 i1g2 i1g3 i1g4 i1g5)) (nr0.trans y)).1.symm)
  | (have y := ((tX hL1 hg4 hg5 (by omega)).1 (by assumption)).1
     first | exact (xrs_10 (Lv := (nrm i0v0 i0v1 i0v2 i0v3 i0h i0v5 i0w i0k i0g1 i0g2 i0g3 i0g4 i0g5)) (An := az) (I0 := (nrm i0v0 i0v1 i0v2 i0v3 i0h i0v5 i0w i0k i0g1 i0g2 i0g3 i0g4 i0g5)) (I1 := (nrm i1v0 i1v1 i1v2 i1v3 i1h i1v5 i1w i1k i1g1 i1g2 i1g3 i1g4 i1g5)) (nr0.trans y)).2.1.symm | exact (xrs_10 (Lv := (nrm i0v0 i0v1 i0v2 i0v3 i0h i0v5 i0w i0k i0g1 i0g2 i0g3 i0g4 i0g5)) (An := az) (I0 := (nrm i0v0 i0v1 i0v2 i0v3 i0h i0v5 i0w i0k i0g1 i0g2 i0g3 i0g4 i0g5)) (I1 := (nrm i1v0 i1v1 i1v2 i1v3 i1h i1v5 i1w i1k i1g1 i1g2 i1g3 i1g4 i1g5)) (nr0.trans y)).2.2.symm | exact (xrs_10 (Lv := (nrm nv0 nv1 nv2 nv3 nhh nv5 nww nkk ng1 ng2 ng3 ng4 ng5)) (An := az) (I0 := (nrm i0v0 i0v1 i0v2 i0v3 i0h i0v5 i0w i0k i0g1 i0g2 i0g3 i0g4 i0g5)) (I1 := (nrm i1v0 i1v1 i1v2 i1v3 i1h i1v5 i1w i1k i1g1 i1g2 i1g3 i1g4 i1g5)) (nr0.trans y)).1.symm)
  | (have y := ((tX hL0 hg1 hg2 (by omega)).2 (by assumption)).1
     first | exact (xrs_01 (Lv := (nrm i0v0 i0v1 i0v2 i0v3 i0h i0v5 i0w i0k i0g1 i0g2 i0g3 i0g4 i0g5)) (An := az) (I0 := (nrm i0v0 i0v1 i0v2 i0v3 i0h i0v5 i0w i0k i0g1 i0g2 i0g3 i0g4 i0g5)) (I1 := (nrm i1v0 i1v1 i1v2 i1v3 i1h i1v5 i1w i1k i1g1 i1g2 i1g3 i1g4 i1g5)) (by rw [nr0]; exact y)).2.1.symm | exact (xrs_01 (Lv := (nrm i0v0 i0v1 i0v2 i0v3 i0h i0v5 i0w i0k i0g1 i0g2 i0g3 i0g4 i0g5)) (An := az) (I0 := (nrm i0v0 i0v1 i0v2 i0v3 i0h i0v5 i0w i0k i0g1 i0g2 i0g3 i0g4 i0g5)) (I1 := (nrm i1v0 i1v1 i1v2 i1v3 i1h i1v5 i1w i1k i1g1 i1g2 i1g3 i1g4 i1g5)) (by rw [nr0]; exact y)).2.2.symm | exact (nr_eq hg1 hg2 (by assumption) (by assumption) (by assumption) (by assumption) (by assumption)).trans (xrs_01 (Lv := (nrm nv0 nv1 nv2 nv3 nhh nv5 nww nkk ng1 ng2 ng3 ng4 ng5)) (An := az) (I0 := (nrm i0v0 i0v1 i0v2 i0v3 i0h i0v5 i0w i0k i0g1 i0g2 i0g3 i0g4 i0g5)) (I1 := (nrm i1v0 i1v1 i1v2 i1v3 i1h i1v5 i1w i1k i1g1 i1g2 i1g3 i1g4 i1g5)) (by rw [nr0]; exact y)).1.symm)
  | (have y := ((tX hL1 hg4 hg5 (by omega)).2 (by assumption)).1
     first | exact (xrs_11 (Lv := (nrm i0v0 i0v1 i0v2 i0v3 i0h i0v5 i0w i0k i0g1 i0g2 i0g3 i0g4 i0g5)) (An := az) (I0 := (nrm i0v0 i0v1 i0v2 i0v3 i0h i0v5 i0w i0k i0g1 i0g2 i0g3 i0g4 i0g5)) (I1 := (nrm i1v0 i1v1 i1v2 i1v3 i1h i1v5 i1w i1k i1g1 i1g2 i1g3 i1g4 i1g5)) (by rw [nr0]; exact y)).2.1.symm | exact (xrs_11 (Lv := (nrm i0v0 i0v1 i0v2 i0v3 i0h i0v5 i0w i0k i0g1 i0g2 i0g3 i0g4 i0g5)) (An := az) (I0 := (nrm i0v0 i0v1 i0v2 i0v3 i0h i0v5 i0w i0k i0g1 i0g2 i0g3 i0g4 i0g5)) (I1 := (nrm i1v0 i1v1 i1v2 i1v3 i1h i1v5 i1w i1k i1g1 i1g2 i1g3 i1g4 i1g5)) (by rw [nr0]; exact y)).2.2.symm | exact (nr_eq hg4 hg5 (by assumption) (by assumption) (by assumption) (by assumption) (by assumption)).trans (xrs_11 (Lv := (nrm nv0 nv1 nv2 nv3 nhh nv5 nww nkk ng1 ng2 ng3 ng4 ng5)) (An := az) (I0 := (nrm i0v0 i0v1 i0v2 i0v3 i0h i0v5 i0w i0k i0g1 i0g2 i0g3 i0g4 i0g5)) (I1 := (nrm i1v0 i1v1 i1v2 i1v3 i1h i1v5 i1w i1k i1g1 i1g2 i1g3 i1g4 i1g5)) (by rw [nr0]; exact y)).1.symm)
theorem lf_X7_restore_32 {nhh : Nat} {nww : Nat} {nkk : Nat} {fi : Nat → Option Nat} {i0 : Nat} {i0v0 : Int32} {i0v1 : Int32} {i0v2 : Int32} {i0v3 : Int32} {i0v5 : Int32} {i0h : Nat} {i0w : Nat} {i0k : Nat} {i0g1 : Nat → Int32} {i0g2 : Nat → Int32} {i0g3 : Nat → Int32} {i0g4 : Nat → Int32} {i0g5 : Nat → Int32} {i1 : Nat} {i1v0 : Int32} {i1v1 : Int32} {i1v2 : Int32} {i1v3 : Int32} {i1v5 : Int32} {i1h : Nat} {i1w : Nat} {i1k : Nat} {i1g1 : Nat → Int32} {i1g2 : Nat → Int32} {i1g3 : Nat → Int32} {i1g4 : Nat → Int32} {i1g5 : Nat → Int32} {az : Nat} {f1n_11 : Nat → Int32} {f2n_11 : Nat → Int32} {f3n_11 : Nat → Int32} {f4n_11 : Nat → Int32} {f5n_11 : Nat → Int32} (nhb : nhh ≤ 999) (nwb : nww ≤ 6) (nkb : nkk ≤ 6) (hi0 : fi 0 = some i0) (hi1 : fi 1 = some i1) (hg0 : i0h ≤ 999) (hg1 : i0w ≤ 6) (hg2 : i0k ≤ 6) (hg3 : i1h ≤ 999) (hg4 : i1w ≤ 6) (hg5 : i1k ≤ 6) (haz : az ≤ 24) (hL0 : okLv (nrm i0v0 i0v1 i0v2 i0v3 i0h i0v5 i0w i0k i0g1 i0g2 i0g3 i0g4 i0g5)) (hL1 : okLv (nrm i1v0 i1v1 i1v2 i1v3 i1h i1v5 i1w i1k i1g1 i1g2 i1g3 i1g4 i1g5)) (c_1 : ¬ ((1 : Int32) < 0)) (c_2 : (1 : Int32) < 2) (f_8_1_0 : 0 < i1v0) (hF_11_0 : (∀ jq : Nat, jq < 6 → f1n_11 jq = i1g1 jq)) (hF_11_1 : (∀ jq : Nat, jq < 6 → f2n_11 jq = i1g2 jq)) (hF_11_2 : (∀ jq : Nat, jq < 6 → f3n_11 jq = i1g3 jq)) (hF_11_3 : (∀ jq : Nat, jq < 6 → f4n_11 jq = i1g4 jq)) (hF_11_4 : (∀ jq : Nat, jq < 6 → f5n_11 jq = i1g5 jq)) : 0 ≤ 24 := by
  first
  | assumption
  | omega
  | (first | exact (xrs_b (Lv := (nrm i0v0 i0v1 i0v2 i0v3 i0h i0v5 i0w i0k i0g1 i0g2 i0g3 i0g4 i0g5)) (An := az) (I0 := (nrm i0v0 i0v1 i0v2 i0v3 i0h i0v5 i0w i0k i0g1 i0g2 i0g3 i0g4 i0g5)) (I1 := (nrm i1v0 i1v1 i1v2 i1v3 i1h i1v5 i1w i1k i1g1 i1g2 i1g3 i1g4 i1g5)) (Or.inl c_1)).2.1.symm | exact (xrs_b (Lv := (nrm i0v0 i0v1 i0v2 i0v3 i0h i0v5 i0w i0k i0g1 i0g2 i0g3 i0g4 i0g5)) (An := az) (I0 := (nrm i0v0 i0v1 i0v2 i0v3 i0h i0v5 i0w i0k i0g1 i0g2 i0g3 i0g4 i0g5)) (I1 := (nrm i1v0 i1v1 i1v2 i1v3 i1h i1v5 i1w i1k i1g1 i1g2 i1g3 i1g4 i1g5)) (Or.inl c_1)).2.2.symm | exact (xrs_b (Lv := (nrm nv0 nv1 nv2 nv3 nhh nv5 nww nkk ng1 ng2 ng3 ng4 ng5)) (An := az) (I0 := (nrm i0v0 i0v1 i0v2 i0v3 i0h i0v5 i0w i0k i0g1 i0g2 i0g3 i0g4 i0g5)) (I1 := (nrm i1v0 i1v1 i1v2 i1v3 i1h i1v5 i1w i1k i1g1 i1g2 i1g3 i1g4 i1g5)) (Or.inl c_1)).1.symm)
  | (first | exact (xrs_b (Lv := (nrm i0v0 i0v1 i0v2 i0v3 i0h i0v5 i0w i0k i0g1 i0g2 i0g3 i0g4 i0g5)) (An := az) (I0 := (nrm i0v0 i0v1 i0v2 i0v3 i0h i0v5 i0w i0k i0g1 i0g2 i0g3 i0g4 i0g5)) (I1 := (nrm i1v0 i1v1 i1v2 i1v3 i1h i1v5 i1w i1k i1g1 i1g2 i1g3 i1g4 i1g5)) (Or.inr c_2)).2.1.symm | exact (xrs_b (Lv := (nrm i0v0 i0v1 i0v2 i0v3 i0h i0v5 i0w i0k i0g1 i0g2 i0g3 i0g4 i0g5)) (An := az) (I0 := (nrm i0v0 i0v1 i0v2 i0v3 i0h i0v5 i0w i0k i0g1 i0g2 i0g3 i0g4 i0g5)) (I1 := (nrm i1v0 i1v1 i1v2 i1v3 i1h i1v5 i1w i1k i1g1 i1g2 i1g3 i1g4 i1g5)) (Or.inr c_2)).2.2.symm | exact (xrs_b (Lv := (nrm nv0 nv1 nv2 nv3 nhh nv5 nww nkk ng1 ng2 ng3 ng4 ng5)) (An := az) (I0 := (nrm i0v0 i0v1 i0v2 i0v3 i0h i0v5 i0w i0k i0g1 i0g2 i0g3 i0g4 i0g5)) (I1 := (nrm i1v0 i1v1 i1v2 i1v3 i1h i1v5 i1w i1k i1g1 i1g2 i1g3 i1g4 i1g5)) (Or.inr c_2)).1.symm)
  | (have y := ((tX hL0 hg1 hg2 (by omega)).1 (by assumption)).1
     first | exact (xrs_00 (Lv := (nrm i0v0 i0v1 i0v2 i0v3 i0h i0v5 i0w i0k i0g1 i0g2 i0g3 i0g4 i0g5)) (An := az) (I0 := (nrm i0v0 i0v1 i0v2 i0v3 i0h i0v5 i0w i0k i0g1 i0g2 i0g3 i0g4 i0g5)) (I1 := (nrm i1v0 i1v1 i1v2 i1v3 i1h i1v5 i1w i1k i1g1 i1g2 i1g3 i1g4 i1g5)) (nr0.trans y)).2.1.symm | exact (xrs_00 (Lv := (nrm i0v0 i0v1 i0v2 i0v3 i0h i0v5 i0w i0k i0g1 i0g2 i0g3 i0g4 i0g5)) (An := az) (I0 := (nrm i0v0 i0v1 i0v2 i0v3 i0h i0v5 i0w i0k i0g1 i0g2 i0g3 i0g4 i0g5)) (I1 := (nrm i1v0 i1v1 i1v2 i1v3 i1h i1v5 i1w i1k i1g1 i1g2 i1g3 i1g4 i1g5)) (nr0.trans y)).2.2.symm | exact (xrs_00 (Lv := (nrm nv0 nv1 nv2 nv3 nhh nv5 nww nkk ng1 ng2 ng3 ng4 ng5)) (An := az) (I0 := (nrm i0v0 i0v1 i0v2 i0v3 i0h i0v5 i0w i0k i0g1 i0g2 i0g3 i0g4 i0g5)) (I1 := (nrm i1v0 i1v1 i1v2 i1v3 i1h i1v5 i1w i1k i1g1 i1g2 i1g3 i1g4 i1g5)) (nr0.trans y)).1.symm)
  | (have y := ((tX hL1 hg4 hg5 (by omega)).1 (by assumption)).1
     first | exact (xrs_10 (Lv := (nrm i0v0 i0v1 i0v2 i0v3 i0h i0v5 i0w i0k i0g1 i0g2 i0g3 i0g4 i0g5)) (An := az) (I0 := (nrm i0v0 i0v1 i0v2 i0v3 i0h i0v5 i0w i0k i0g1 i0g2 i0g3 i0g4 i0g5)) (I1 := (nrm i1v0 i1v1 i1v2 i1v3 i1h i1v5 i1w i1k i1g1 i1g2 i1g3 i1g4 i1g5)) (nr0.trans y)).2.1.symm | exact (xrs_10 (Lv := (nrm i0v0 i0v1 i0v2 i0v3 i0h i0v5 i0w i0k i0g1 i0g2 i0g3 i0g4 i0g5)) (An := az) (I0 := (nrm i0v0 i0v1 i0v2 i0v3 i0h i0v5 i0w i0k i0g1 i0g2 i0g3 i0g4 i0g5)) (I1 := (nrm i1v0 i1v1 i1v2 i1v3 i1h i1v5 i1w i1k i1g1 i1g2 i1g3 i1g4 i1g5)) (nr0.trans y)).2.2.symm | exact (xrs_10 (Lv := (nrm nv0 nv1 nv2 nv3 nhh nv5 nww nkk ng1 ng2 ng3 ng4 ng5)) (An := az) (I0 := (nrm i0v0 i0v1 i0v2 i0v3 i0h i0v5 i0w i0k i0g1 i0g2 i0g3 i0g4 i0g5)) (I1 := (nrm i1v0 i1v1 i1v2 i1v3 i1h i1v5 i1w i1k i1g1 i1g2 i1g3 i1g4 i1g5)) (nr0.trans y)).1.symm)
  | (have y := ((tX hL0 hg1 hg2 (by omega)).2 (by assumption)).1
     first | exact (xrs_01 (Lv := (nrm i0v0 i0v1 i0v2 i0v3 i0h i0v5 i0w i0k i0g1 i0g2 i0g3 i0g4 i0g5)) (An := az) (I0 := (nrm i0v0 i0v1 i0v2 i0v3 i0h i0v5 i0w i0k i0g1 i0g2 i0g3 i0g4 i0g5)) (I1 := (nrm i1v0 i1v1 i1v2 i1v3 i1h i1v5 i1w i1k i1g1 i1g2 i1g3 i1g4 i1g5)) (by rw [nr0]; exact y)).2.1.symm | exact (xrs_01 (Lv := (nrm i0v0 i0v1 i0v2 i0v3 i0h i0v5 i0w i0k i0g1 i0g2 i0g3 i0g4 i0g5)) (An := az) (I0 := (nrm i0v0 i0v1 i0v2 i0v3 i0h i0v5 i0w i0k i0g1 i0g2 i0g3 i0g4 i0g5)) (I1 := (nrm i1v0 i1v1 i1v2 i1v3 i1h i1v5 i1w i1k i1g1 i1g2 i1g3 i1g4 i1g5)) (by rw [nr0]; exact y)).2.2.symm | exact (nr_eq hg1 hg2 (by assumption) (by assumption) (by assumption) (by assumption) (by assumption)).trans (xrs_01 (Lv := (nrm nv0 nv1 nv2 nv3 nhh nv5 nww nkk ng1 ng2 ng3 ng4 ng5)) (An := az) (I0 := (nrm i0v0 i0v1 i0v2 i0v3 i0h i0v5 i0w i0k i0g1 i0g2 i0g3 i0g4 i0g5)) (I1 := (nrm i1v0 i1v1 i1v2 i1v3 i1h i1v5 i1w i1k i1g1 i1g2 i1g3 i1g4 i1g5)) (by rw [nr0]; exact y)).1.symm)
  | (have y := ((tX hL1 hg4 hg5 (by omega)).2 (by assumption)).1
     first | exact (xrs_11 (Lv := (nrm i0v0 i0v1 i0v2 i0v3 i0h i0v5 i0w i0k i0g1 i0g2 i0g3 i0g4 i0g5)) (An := az) (I0 := (nrm i0v0 i0v1 i0v2 i0v3 i0h i0v5 i0w i0k i0g1 i0g2 i0g3 i0g4 i0g5)) (I1 := (nrm i1v0 i1v1 i1v2 i1v3 i1h i1v5 i1w i1k i1g1 i1g2 i1g3 i1g4 i1g5)) (by rw [nr0]; exact y)).2.1.symm | exact (xrs_11 (Lv := (nrm i0v0 i0v1 i0v2 i0v3 i0h i0v5 i0w i0k i0g1 i0g2 i0g3 i0g4 i0g5)) (An := az) (I0 := (nrm i0v0 i0v1 i0v2 i0v3 i0h i0v5 i0w i0k i0g1 i0g2 i0g3 i0g4 i0g5)) (I1 := (nrm i1v0 i1v1 i1v2 i1v3 i1h i1v5 i1w i1k i1g1 i1g2 i1g3 i1g4 i1g5)) (by rw [nr0]; exact y)).2.2.symm | exact (nr_eq hg4 hg5 (by assumption) (by assumption) (by assumption) (by assumption) (by assumption)).trans (xrs_11 (Lv := (nrm nv0 nv1 nv2 nv3 nhh nv5 nww nkk ng1 ng2 ng3 ng4 ng5)) (An := az) (I0 := (nrm i0v0 i0v1 i0v2 i0v3 i0h i0v5 i0w i0k i0g1 i0g2 i0g3 i0g4 i0g5)) (I1 := (nrm i1v0 i1v1 i1v2 i1v3 i1h i1v5 i1w i1k i1g1 i1g2 i1g3 i1g4 i1g5)) (by rw [nr0]; exact y)).1.symm)
theorem lf_X7_restore_33 {nv0 : Int32} {nv1 : Int32} {nv2 : Int32} {nv3 : Int32} {nv5 : Int32} {nhh : Nat} {nww : Nat} {nkk : Nat} {ng1 : Nat → Int32} {ng2 : Nat → Int32} {ng3 : Nat → Int32} {ng4 : Nat → Int32} {ng5 : Nat → Int32} {fi : Nat → Option Nat} {i0 : Nat} {i0v0 : Int32} {i0v1 : Int32} {i0v2 : Int32} {i0v3 : Int32} {i0v5 : Int32} {i0h : Nat} {i0w : Nat} {i0k : Nat} {i0g1 : Nat → Int32} {i0g2 : Nat → Int32} {i0g3 : Nat → Int32} {i0g4 : Nat → Int32} {i0g5 : Nat → Int32} {i1 : Nat} {i1v0 : Int32} {i1v1 : Int32} {i1v2 : Int32} {i1v3 : Int32} {i1v5 : Int32} {i1h : Nat} {i1w : Nat} {i1k : Nat} {i1g1 : Nat → Int32} {i1g2 : Nat → Int32} {i1g3 : Nat → Int32} {i1g4 : Nat → Int32} {i1g5 : Nat → Int32} {az : Nat} {f1n_11 : Nat → Int32} {f2n_11 : Nat → Int32} {f3n_11 : Nat → Int32} {f4n_11 : Nat → Int32} {f5n_11 : Nat → Int32} (nhb : nhh ≤ 999) (nwb : nww ≤ 6) (nkb : nkk ≤ 6) (hi0 : fi 0 = some i0) (hi1 : fi 1 = some i1) (hg0 : i0h ≤ 999) (hg1 : i0w ≤ 6) (hg2 : i0k ≤ 6) (hg3 : i1h ≤ 999) (hg4 : i1w ≤ 6) (hg5 : i1k ≤ 6) (haz : az ≤ 24) (hL0 : okLv (nrm i0v0 i0v1 i0v2 i0v3 i0h i0v5 i0w i0k i0g1 i0g2 i0g3 i0g4 i0g5)) (hL1 : okLv (nrm i1v0 i1v1 i1v2 i1v3 i1h i1v5 i1w i1k i1g1 i1g2 i1g3 i1g4 i1g5)) (c_1 : ¬ ((1 : Int32) < 0)) (c_2 : (1 : Int32) < 2) (f_8_1_0 : 0 < i1v0) (hF_11_0 : (∀ jq : Nat, jq < 6 → f1n_11 jq = i1g1 jq)) (hF_11_1 : (∀ jq : Nat, jq < 6 → f2n_11 jq = i1g2 jq)) (hF_11_2 : (∀ jq : Nat, jq < 6 → f3n_11 jq = i1g3 jq)) (hF_11_3 : (∀ jq : Nat, jq < 6 → f4n_11 jq = i1g4 jq)) (hF_11_4 : (∀ jq : Nat, jq < 6 → f5n_11 jq = i1g5 jq)) : (nrm i1v0 i1v1 i1v2 i1v3 i1h i1v5 i1w i1k f1n_11 f2n_11 f3n_11 f4n_11 f5n_11) = n_rst (nrm nv0 nv1 nv2 nv3 nhh nv5 nww nkk ng1 ng2 ng3 ng4 ng5) (nrm i0v0 i0v1 i0v2 i0v3 i0h i0v5 i0w i0k i0g1 i0g2 i0g3 i0g4 i0g5) (nrm i1v0 i1v1 i1v2 i1v3 i1h i1v5 i1w i1k i1g1 i1g2 i1g3 i1g4 i1g5) (1 : Int32) := by
  first
  | assumption
  | omega
  | (first | exact (xrs_b (Lv := (nrm i0v0 i0v1 i0v2 i0v3 i0h i0v5 i0w i0k i0g1 i0g2 i0g3 i0g4 i0g5)) (An := az) (I0 := (nrm i0v0 i0v1 i0v2 i0v3 i0h i0v5 i0w i0k i0g1 i0g2 i0g3 i0g4 i0g5)) (I1 := (nrm i1v0 i1v1 i1v2 i1v3 i1h i1v5 i1w i1k i1g1 i1g2 i1g3 i1g4 i1g5)) (Or.inl c_1)).2.1.symm | exact (xrs_b (Lv := (nrm i0v0 i0v1 i0v2 i0v3 i0h i0v5 i0w i0k i0g1 i0g2 i0g3 i0g4 i0g5)) (An := az) (I0 := (nrm i0v0 i0v1 i0v2 i0v3 i0h i0v5 i0w i0k i0g1 i0g2 i0g3 i0g4 i0g5)) (I1 := (nrm i1v0 i1v1 i1v2 i1v3 i1h i1v5 i1w i1k i1g1 i1g2 i1g3 i1g4 i1g5)) (Or.inl c_1)).2.2.symm | exact (xrs_b (Lv := (nrm nv0 nv1 nv2 nv3 nhh nv5 nww nkk ng1 ng2 ng3 ng4 ng5)) (An := az) (I0 := (nrm i0v0 i0v1 i0v2 i0v3 i0h i0v5 i0w i0k i0g1 i0g2 i0g3 i0g4 i0g5)) (I1 := (nrm i1v0 i1v1 i1v2 i1v3 i1h i1v5 i1w i1k i1g1 i1g2 i1g3 i1g4 i1g5)) (Or.inl c_1)).1.symm)
  | (first | exact (xrs_b (Lv := (nrm i0v0 i0v1 i0v2 i0v3 i0h i0v5 i0w i0k i0g1 i0g2 i0g3 i0g4 i0g5)) (An := az) (I0 := (nrm i0v0 i0v1 i0v2 i0v3 i0h i0v5 i0w i0k i0g1 i0g2 i0g3 i0g4 i0g5)) (I1 := (nrm i1v0 i1v1 i1v2 i1v3 i1h i1v5 i1w i1k i1g1 i1g2 i1g3 i1g4 i1g5)) (Or.inr c_2)).2.1.symm | exact (xrs_b (Lv := (nrm i0v0 i0v1 i0v2 i0v3 i0h i0v5 i0w i0k i0g1 i0g2 i0g3 i0g4 i0g5)) (An := az) (I0 := (nrm i0v0 i0v1 i0v2 i0v3 i0h i0v5 i0w i0k i0g1 i0g2 i0g3 i0g4 i0g5)) (I1 := (nrm i1v0 i1v1 i1v2 i1v3 i1h i1v5 i1w i1k i1g1 i1g2 i1g3 i1g4 i1g5)) (Or.inr c_2)).2.2.symm | exact (xrs_b (Lv := (nrm nv0 nv1 nv2 nv3 nhh nv5 nww nkk ng1 ng2 ng3 ng4 ng5)) (An := az) (I0 := (nrm i0v0 i0v1 i0v2 i0v3 i0h i0v5 i0w i0k i0g1 i0g2 i0g3 i0g4 i0g5)) (I1 := (nrm i1v0 i1v1 i1v2 i1v3 i1h i1v5 i1w i1k i1g1 i1g2 i1g3 i1g4 i1g5)) (Or.inr c_2)).1.symm)
  | (have y := ((tX hL0 hg1 hg2 (by omega)).1 (by assumption)).1
     first | exact (xrs_00 (Lv := (nrm i0v0 i0v1 i0v2 i0v3 i0h i0v5 i0w i0k i0g1 i0g2 i0g3 i0g4 i0g5)) (An := az) (I0 := (nrm i0v0 i0v1 i0v2 i0v3 i0h i0v5 i0w i0k i0g1 i0g2 i0g3 i0g4 i0g5)) (I1 := (nrm i1v0 i1v1 i1v2 i1v3 i1h i1v5 i1w i1k i1g1 i1g2 i1g3 i1g4 i1g5)) (nr0.trans y)).2.1.symm | exact (xrs_00 (Lv := (nrm i0v0 i0v1 i0v2 i0v3 i0h i0v5 i0w i0k i0g1 i0g2 i0g3 i0g4 i0g5)) (An := az) (I0 := (nrm i0v0 i0v1 i0v2 i0v3 i0h i0v5 i0w i0k i0g1 i0g2 i0g3 i0g4 i0g5)) (I1 := (nrm i1v0 i1v1 i1v2 i1v3 i1h i1v5 i1w i1k i1g1 i1g2 i1g3 i1g4 i1g5)) (nr0.trans y)).2.2.symm | exact (xrs_00 (Lv := (nrm nv0 nv1 nv2 nv3 nhh nv5 nww nkk ng1 ng2 ng3 ng4 ng5)) (An := az) (I0 := (nrm i0v0 i0v1 i0v2 i0v3 i0h i0v5 i0w i0k i0g1 i0g2 i0g3 i0g4 i0g5)) (I1 := (nrm i1v0 i1v1 i1v2 i1v3 i1h i1v5 i1w i1k i1g1 i1g2 i1g3 i1g4 i1g5)) (nr0.trans y)).1.symm)
  | (have y := ((tX hL1 hg4 hg5 (by omega)).1 (by assumption)).1
     first | exact (xrs_10 (Lv := (nrm i0v0 i0v1 i0v2 i0v3 i0h i0v5 i0w i0k i0g1 i0g2 i0g3 i0g4 i0g5)) (An := az) (I0 := (nrm i0v0 i0v1 i0v2 i0v3 i0h i0v5 i0w i0k i0g1 i0g2 i0g3 i0g4 i0g5)) (I1 := (nrm i1v0 i1v1 i1v2 i1v3 i1h i1v5 i1w i1k i1g1 i1g2 i1g3 i1g4 i1g5)) (nr0.trans y)).2.1.symm | exact (xrs_10 (Lv := (nrm i0v0 i0v1 i0v2 i0v3 i0h i0v5 i0w i0k i0g1 i0g2 i0g3 i0g4 i0g5)) (An := az) (I0 := (nrm i0v0 i0v1 i0v2 i0v3 i0h i0v5 i0w i0k i0g1 i0g2 i0g3 i0g4 i0g5)) (I1 := (nrm i1v0 i1v1 i1v2 i1v3 i1h i1v5 i1w i1k i1g1 i1g2 i1g3 i1g4 i1g5)) (nr0.trans y)).2.2.symm | exact (xrs_10 (Lv := (nrm nv0 nv1 nv2 nv3 nhh nv5 nww nkk ng1 ng2 ng3 ng4 ng5)) (An := az) (I0 := (nrm i0v0 i0v1 i0v2 i0v3 i0h i0v5 i0w i0k i0g1 i0g2 i0g3 i0g4 i0g5)) (I1 := (nrm i1v0 i1v1 i1v2 i1v3 i1h i1v5 i1w i1k i1g1 i1g2 i1g3 i1g4 i1g5)) (nr0.trans y)).1.symm)
  | (have y := ((tX hL0 hg1 hg2 (by omega)).2 (by assumption)).1
     first | exact (xrs_01 (Lv := (nrm i0v0 i0v1 i0v2 i0v3 i0h i0v5 i0w i0k i0g1 i0g2 i0g3 i0g4 i0g5)) (An := az) (I0 := (nrm i0v0 i0v1 i0v2 i0v3 i0h i0v5 i0w i0k i0g1 i0g2 i0g3 i0g4 i0g5)) (I1 := (nrm i1v0 i1v1 i1v2 i1v3 i1h i1v5 i1w i1k i1g1 i1g2 i1g3 i1g4 i1g5)) (by rw [nr0]; exact y)).2.1.symm | exact (xrs_01 (Lv := (nrm i0v0 i0v1 i0v2 i0v3 i0h i0v5 i0w i0k i0g1 i0g2 i0g3 i0g4 i0g5)) (An := az) (I0 := (nrm i0v0 i0v1 i0v2 i0v3 i0h i0v5 i0w i0k i0g1 i0g2 i0g3 i0g4 i0g5)) (I1 := (nrm i1v0 i1v1 i1v2 i1v3 i1h i1v5 i1w i1k i1g1 i1g2 i1g3 i1g4 i1g5)) (by rw [nr0]; exact y)).2.2.symm | exact (nr_eq hg1 hg2 (by assumption) (by assumption) (by assumption) (by assumption) (by assumption)).trans (xrs_01 (Lv := (nrm nv0 nv1 nv2 nv3 nhh nv5 nww nkk ng1 ng2 ng3 ng4 ng5)) (An := az) (I0 := (nrm i0v0 i0v1 i0v2 i0v3 i0h i0v5 i0w i0k i0g1 i0g2 i0g3 i0g4 i0g5)) (I1 := (nrm i1v0 i1v1 i1v2 i1v3 i1h i1v5 i1w i1k i1g1 i1g2 i1g3 i1g4 i1g5)) (by rw [nr0]; exact y)).1.symm)
  | (have y := ((tX hL1 hg4 hg5 (by omega)).2 (by assumption)).1
     first | exact (xrs_11 (Lv := (nrm i0v0 i0v1 i0v2 i0v3 i0h i0v5 i0w i0k i0g1 i0g2 i0g3 i0g4 i0g5)) (An := az) (I0 := (nrm i0v0 i0v1 i0v2 i0v3 i0h i0v5 i0w i0k i0g1 i0g2 i0g3 i0g4 i0g5)) (I1 := (nrm i1v0 i1v1 i1v2 i1v3 i1h i1v5 i1w i1k i1g1 i1g2 i1g3 i1g4 i1g5)) (by rw [nr0]; exact y)).2.1.symm | exact (xrs_11 (Lv := (nrm i0v0 i0v1 i0v2 i0v3 i0h i0v5 i0w i0k i0g1 i0g2 i0g3 i0g4 i0g5)) (An := az) (I0 := (nrm i0v0 i0v1 i0v2 i0v3 i0h i0v5 i0w i0k i0g1 i0g2 i0g3 i0g4 i0g5)) (I1 := (nrm i1v0 i1v1 i1v2 i1v3 i1h i1v5 i1w i1k i1g1 i1g2 i1g3 i1g4 i1g5)) (by rw [nr0]; exact y)).2.2.symm | exact (nr_eq hg4 hg5 (by assumption) (by assumption) (by assumption) (by assumption) (by assumption)).trans (xrs_11 (Lv := (nrm nv0 nv1 nv2 nv3 nhh nv5 nww nkk ng1 ng2 ng3 ng4 ng5)) (An := az) (I0 := (nrm i0v0 i0v1 i0v2 i0v3 i0h i0v5 i0w i0k i0g1 i0g2 i0g3 i0g4 i0g5)) (I1 := (nrm i1v0 i1v1 i1v2 i1v3 i1h i1v5 i1w i1k i1g1 i1g2 i1g3 i1g4 i1g5)) (by rw [nr0]; exact y)).1.symm)
theorem lf_X7_restore_34 {nhh : Nat} {nww : Nat} {nkk : Nat} {fi : Nat → Option Nat} {i0 : Nat} {i0v0 : Int32} {i0v1 : Int32} {i0v2 : Int32} {i0v3 : Int32} {i0v5 : Int32} {i0h : Nat} {i0w : Nat} {i0k : Nat} {i0g1 : Nat → Int32} {i0g2 : Nat → Int32} {i0g3 : Nat → Int32} {i0g4 : Nat → Int32} {i0g5 : Nat → Int32} {i1 : Nat} {i1v0 : Int32} {i1v1 : Int32} {i1v2 : Int32} {i1v3 : Int32} {i1v5 : Int32} {i1h : Nat} {i1w : Nat} {i1k : Nat} {i1g1 : Nat → Int32} {i1g2 : Nat → Int32} {i1g3 : Nat → Int32} {i1g4 : Nat → Int32} {i1g5 : Nat → Int32} {az : Nat} {f1n_11 : Nat → Int32} {f2n_11 : Nat → Int32} {f3n_11 : Nat → Int32} {f4n_11 : Nat → Int32} {f5n_11 : Nat → Int32} (nhb : nhh ≤ 999) (nwb : nww ≤ 6) (nkb : nkk ≤ 6) (hi0 : fi 0 = some i0) (hi1 : fi 1 = some i1) (hg0 : i0h ≤ 999) (hg1 : i0w ≤ 6) (hg2 : i0k ≤ 6) (hg3 : i1h ≤ 999) (hg4 : i1w ≤ 6) (hg5 : i1k ≤ 6) (haz : az ≤ 24) (hL0 : okLv (nrm i0v0 i0v1 i0v2 i0v3 i0h i0v5 i0w i0k i0g1 i0g2 i0g3 i0g4 i0g5)) (hL1 : okLv (nrm i1v0 i1v1 i1v2 i1v3 i1h i1v5 i1w i1k i1g1 i1g2 i1g3 i1g4 i1g5)) (c_1 : ¬ ((1 : Int32) < 0)) (c_2 : (1 : Int32) < 2) (f_8_1_0 : 0 < i1v0) (hF_11_0 : (∀ jq : Nat, jq < 6 → f1n_11 jq = i1g1 jq)) (hF_11_1 : (∀ jq : Nat, jq < 6 → f2n_11 jq = i1g2 jq)) (hF_11_2 : (∀ jq : Nat, jq < 6 → f3n_11 jq = i1g3 jq)) (hF_11_3 : (∀ jq : Nat, jq < 6 → f4n_11 jq = i1g4 jq)) (hF_11_4 : (∀ jq : Nat, jq < 6 → f5n_11 jq = i1g5 jq)) : 0 = m_rst az (nrm i0v0 i0v1 i0v2 i0v3 i0h i0v5 i0w i0k i0g1 i0g2 i0g3 i0g4 i0g5) (nrm i1v0 i1v1 i1v2 i1v3 i1h i1v5 i1w i1k i1g1 i1g2 i1g3 i1g4 i1g5) (1 : Int32) := by
  first
  | assumption
  | omega
  | (first | exact (xrs_b (Lv := (nrm i0v0 i0v1 i0v2 i0v3 i0h i0v5 i0w i0k i0g1 i0g2 i0g3 i0g4 i0g5)) (An := az) (I0 := (nrm i0v0 i0v1 i0v2 i0v3 i0h i0v5 i0w i0k i0g1 i0g2 i0g3 i0g4 i0g5)) (I1 := (nrm i1v0 i1v1 i1v2 i1v3 i1h i1v5 i1w i1k i1g1 i1g2 i1g3 i1g4 i1g5)) (Or.inl c_1)).2.1.symm | exact (xrs_b (Lv := (nrm i0v0 i0v1 i0v2 i0v3 i0h i0v5 i0w i0k i0g1 i0g2 i0g3 i0g4 i0g5)) (An := az) (I0 := (nrm i0v0 i0v1 i0v2 i0v3 i0h i0v5 i0w i0k i0g1 i0g2 i0g3 i0g4 i0g5)) (I1 := (nrm i1v0 i1v1 i1v2 i1v3 i1h i1v5 i1w i1k i1g1 i1g2 i1g3 i1g4 i1g5)) (Or.inl c_1)).2.2.symm | exact (xrs_b (Lv := (nrm nv0 nv1 nv2 nv3 nhh nv5 nww nkk ng1 ng2 ng3 ng4 ng5)) (An := az) (I0 := (nrm i0v0 i0v1 i0v2 i0v3 i0h i0v5 i0w i0k i0g1 i0g2 i0g3 i0g4 i0g5)) (I1 := (nrm i1v0 i1v1 i1v2 i1v3 i1h i1v5 i1w i1k i1g1 i1g2 i1g3 i1g4 i1g5)) (Or.inl c_1)).1.symm)
  | (first | exact (xrs_b (Lv := (nrm i0v0 i0v1 i0v2 i0v3 i0h i0v5 i0w i0k i0g1 i0g2 i0g3 i0g4 i0g5)) (An := az) (I0 := (nrm i0v0 i0v1 i0v2 i0v3 i0h i0v5 i0w i0k i0g1 i0g2 i0g3 i0g4 i0g5)) (I1 := (nrm i1v0 i1v1 i1v2 i1v3 i1h i1v5 i1w i1k i1g1 i1g2 i1g3 i1g4 i1g5)) (Or.inr c_2)).2.1.symm | exact (xrs_b (Lv := (nrm i0v0 i0v1 i0v2 i0v3 i0h i0v5 i0w i0k i0g1 i0g2 i0g3 i0g4 i0g5)) (An := az) (I0 := (nrm i0v0 i0v1 i0v2 i0v3 i0h i0v5 i0w i0k i0g1 i0g2 i0g3 i0g4 i0g5)) (I1 := (nrm i1v0 i1v1 i1v2 i1v3 i1h i1v5 i1w i1k i1g1 i1g2 i1g3 i1g4 i1g5)) (Or.inr c_2)).2.2.symm | exact (xrs_b (Lv := (nrm nv0 nv1 nv2 nv3 nhh nv5 nww nkk ng1 ng2 ng3 ng4 ng5)) (An := az) (I0 := (nrm i0v0 i0v1 i0v2 i0v3 i0h i0v5 i0w i0k i0g1 i0g2 i0g3 i0g4 i0g5)) (I1 := (nrm i1v0 i1v1 i1v2 i1v3 i1h i1v5 i1w i1k i1g1 i1g2 i1g3 i1g4 i1g5)) (Or.inr c_2)).1.symm)
  | (have y := ((tX hL0 hg1 hg2 (by omega)).1 (by assumption)).1
     first | exact (xrs_00 (Lv := (nrm i0v0 i0v1 i0v2 i0v3 i0h i0v5 i0w i0k i0g1 i0g2 i0g3 i0g4 i0g5)) (An := az) (I0 := (nrm i0v0 i0v1 i0v2 i0v3 i0h i0v5 i0w i0k i0g1 i0g2 i0g3 i0g4 i0g5)) (I1 := (nrm i1v0 i1v1 i1v2 i1v3 i1h i1v5 i1w i1k i1g1 i1g2 i1g3 i1g4 i1g5)) (nr0.trans y)).2.1.symm | exact (xrs_00 (Lv := (nrm i0v0 i0v1 i0v2 i0v3 i0h i0v5 i0w i0k i0g1 i0g2 i0g3 i0g4 i0g5)) (An := az) (I0 := (nrm i0v0 i0v1 i0v2 i0v3 i0h i0v5 i0w i0k i0g1 i0g2 i0g3 i0g4 i0g5)) (I1 := (nrm i1v0 i1v1 i1v2 i1v3 i1h i1v5 i1w i1k i1g1 i1g2 i1g3 i1g4 i1g5)) (nr0.trans y)).2.2.symm | exact (xrs_00 (Lv := (nrm nv0 nv1 nv2 nv3 nhh nv5 nww nkk ng1 ng2 ng3 ng4 ng5)) (An := az) (I0 := (nrm i0v0 i0v1 i0v2 i0v3 i0h i0v5 i0w i0k i0g1 i0g2 i0g3 i0g4 i0g5)) (I1 := (nrm i1v0 i1v1 i1v2 i1v3 i1h i1v5 i1w i1k i1g1 i1g2 i1g3 i1g4 i1g5)) (nr0.trans y)).1.symm)
  | (have y := ((tX hL1 hg4 hg5 (by omega)).1 (by assumption)).1
     first | exact (xrs_10 (Lv := (nrm i0v0 i0v1 i0v2 i0v3 i0h i0v5 i0w i0k i0g1 i0g2 i0g3 i0g4 i0g5)) (An := az) (I0 := (nrm i0v0 i0v1 i0v2 i0v3 i0h i0v5 i0w i0k i0g1 i0g2 i0g3 i0g4 i0g5)) (I1 := (nrm i1v0 i1v1 i1v2 i1v3 i1h i1v5 i1w i1k i1g1 i1g2 i1g3 i1g4 i1g5)) (nr0.trans y)).2.1.symm | exact (xrs_10 (Lv := (nrm i0v0 i0v1 i0v2 i0v3 i0h i0v5 i0w i0k i0g1 i0g2 i0g3 i0g4 i0g5)) (An := az) (I0 := (nrm i0v0 i0v1 i0v2 i0v3 i0h i0v5 i0w i0k i0g1 i0g2 i0g3 i0g4 i0g5)) (I1 := (nrm i1v0 i1v1 i1v2 i1v3 i1h i1v5 i1w i1k i1g1 i1g2 i1g3 i1g4 i1g5)) (nr0.trans y)).2.2.symm | exact (xrs_10 (Lv := (nrm nv0 nv1 nv2 nv3 nhh nv5 nww nkk ng1 ng2 ng3 ng4 ng5)) (An := az) (I0 := (nrm i0v0 i0v1 i0v2 i0v3 i0h i0v5 i0w i0k i0g1 i0g2 i0g3 i0g4 i0g5)) (I1 := (nrm i1v0 i1v1 i1v2 i1v3 i1h i1v5 i1w i1k i1g1 i1g2 i1g3 i1g4 i1g5)) (nr0.trans y)).1.symm)
  | (have y := ((tX hL0 hg1 hg2 (by omega)).2 (by assumption)).1
     first | exact (xrs_01 (Lv := (nrm i0v0 i0v1 i0v2 i0v3 i0h i0v5 i0w i0k i0g1 i0g2 i0g3 i0g4 i0g5)) (An := az) (I0 := (nrm i0v0 i0v1 i0v2 i0v3 i0h i0v5 i0w i0k i0g1 i0g2 i0g3 i0g4 i0g5)) (I1 := (nrm i1v0 i1v1 i1v2 i1v3 i1h i1v5 i1w i1k i1g1 i1g2 i1g3 i1g4 i1g5)) (by rw [nr0]; exact y)).2.1.symm | exact (xrs_01 (Lv := (nrm i0v0 i0v1 i0v2 i0v3 i0h i0v5 i0w i0k i0g1 i0g2 i0g3 i0g4 i0g5)) (An := az) (I0 := (nrm i0v0 i0v1 i0v2 i0v3 i0h i0v5 i0w i0k i0g1 i0g2 i0g3 i0g4 i0g5)) (I1 := (nrm i1v0 i1v1 i1v2 i1v3 i1h i1v5 i1w i1k i1g1 i1g2 i1g3 i1g4 i1g5)) (by rw [nr0]; exact y)).2.2.symm | exact (nr_eq hg1 hg2 (by assumption) (by assumption) (by assumption) (by assumption) (by assumption)).trans (xrs_01 (Lv := (nrm nv0 nv1 nv2 nv3 nhh nv5 nww nkk ng1 ng2 ng3 ng4 ng5)) (An := az) (I0 := (nrm i0v0 i0v1 i0v2 i0v3 i0h i0v5 i0w i0k i0g1 i0g2 i0g3 i0g4 i0g5)) (I1 := (nrm i1v0 i1v1 i1v2 i1v3 i1h i1v5 i1w i1k i1g1 i1g2 i1g3 i1g4 i1g5)) (by rw [nr0]; exact y)).1.symm)
  | (have y := ((tX hL1 hg4 hg5 (by omega)).2 (by assumption)).1
     first | exact (xrs_11 (Lv := (nrm i0v0 i0v1 i0v2 i0v3 i0h i0v5 i0w i0k i0g1 i0g2 i0g3 i0g4 i0g5)) (An := az) (I0 := (nrm i0v0 i0v1 i0v2 i0v3 i0h i0v5 i0w i0k i0g1 i0g2 i0g3 i0g4 i0g5)) (I1 := (nrm i1v0 i1v1 i1v2 i1v3 i1h i1v5 i1w i1k i1g1 i1g2 i1g3 i1g4 i1g5)) (by rw [nr0]; exact y)).2.1.symm | exact (xrs_11 (Lv := (nrm i0v0 i0v1 i0v2 i0v3 i0h i0v5 i0w i0k i0g1 i0g2 i0g3 i0g4 i0g5)) (An := az) (I0 := (nrm i0v0 i0v1 i0v2 i0v3 i0h i0v5 i0w i0k i0g1 i0g2 i0g3 i0g4 i0g5)) (I1 := (nrm i1v0 i1v1 i1v2 i1v3 i1h i1v5 i1w i1k i1g1 i1g2 i1g3 i1g4 i1g5)) (by rw [nr0]; exact y)).2.2.symm | exact (nr_eq hg4 hg5 (by assumption) (by assumption) (by assumption) (by assumption) (by assumption)).trans (xrs_11 (Lv := (nrm nv0 nv1 nv2 nv3 nhh nv5 nww nkk ng1 ng2 ng3 ng4 ng5)) (An := az) (I0 := (nrm i0v0 i0v1 i0v2 i0v3 i0h i0v5 i0w i0k i0g1 i0g2 i0g3 i0g4 i0g5)) (I1 := (nrm i1v0 i1v1 i1v2 i1v3 i1h i1v5 i1w i1k i1g1 i1g2 i1g3 i1g4 i1g5)) (by rw [nr0]; exact y)).1.symm)
theorem lf_X7_restore_35 {nhh : Nat} {nww : Nat} {nkk : Nat} {fi : Nat → Option Nat} {i0 : Nat} {i0v0 : Int32} {i0v1 : Int32} {i0v2 : Int32} {i0v3 : Int32} {i0v5 : Int32} {i0h : Nat} {i0w : Nat} {i0k : Nat} {i0g1 : Nat → Int32} {i0g2 : Nat → Int32} {i0g3 : Nat → Int32} {i0g4 : Nat → Int32} {i0g5 : Nat → Int32} {i1 : Nat} {i1v0 : Int32} {i1v1 : Int32} {i1v2 : Int32} {i1v3 : Int32} {i1v5 : Int32} {i1h : Nat} {i1w : Nat} {i1k : Nat} {i1g1 : Nat → Int32} {i1g2 : Nat → Int32} {i1g3 : Nat → Int32} {i1g4 : Nat → Int32} {i1g5 : Nat → Int32} {az : Nat} {f1n_11 : Nat → Int32} {f2n_11 : Nat → Int32} {f3n_11 : Nat → Int32} {f4n_11 : Nat → Int32} {f5n_11 : Nat → Int32} (nhb : nhh ≤ 999) (nwb : nww ≤ 6) (nkb : nkk ≤ 6) (hi0 : fi 0 = some i0) (hi1 : fi 1 = some i1) (hg0 : i0h ≤ 999) (hg1 : i0w ≤ 6) (hg2 : i0k ≤ 6) (hg3 : i1h ≤ 999) (hg4 : i1w ≤ 6) (hg5 : i1k ≤ 6) (haz : az ≤ 24) (hL0 : okLv (nrm i0v0 i0v1 i0v2 i0v3 i0h i0v5 i0w i0k i0g1 i0g2 i0g3 i0g4 i0g5)) (hL1 : okLv (nrm i1v0 i1v1 i1v2 i1v3 i1h i1v5 i1w i1k i1g1 i1g2 i1g3 i1g4 i1g5)) (c_1 : ¬ ((1 : Int32) < 0)) (c_2 : (1 : Int32) < 2) (f_8_1_0 : 0 < i1v0) (hF_11_0 : (∀ jq : Nat, jq < 6 → f1n_11 jq = i1g1 jq)) (hF_11_1 : (∀ jq : Nat, jq < 6 → f2n_11 jq = i1g2 jq)) (hF_11_2 : (∀ jq : Nat, jq < 6 → f3n_11 jq = i1g3 jq)) (hF_11_3 : (∀ jq : Nat, jq < 6 → f4n_11 jq = i1g4 jq)) (hF_11_4 : (∀ jq : Nat, jq < 6 → f5n_11 jq = i1g5 jq)) : 1 = (a_rst (nrm i0v0 i0v1 i0v2 i0v3 i0h i0v5 i0w i0k i0g1 i0g2 i0g3 i0g4 i0g5) (nrm i1v0 i1v1 i1v2 i1v3 i1h i1v5 i1w i1k i1g1 i1g2 i1g3 i1g4 i1g5) (1 : Int32)) := by
  first
  | assumption
  | omega
  | (first | exact (xrs_b (Lv := (nrm i0v0 i0v1 i0v2 i0v3 i0h i0v5 i0w i0k i0g1 i0g2 i0g3 i0g4 i0g5)) (An := az) (I0 := (nrm i0v0 i0v1 i0v2 i0v3 i0h i0v5 i0w i0k i0g1 i0g2 i0g3 i0g4 i0g5)) (I1 := (nrm i1v0 i1v1 i1v2 i1v3 i1h i1v5 i1w i1k i1g1 i1g2 i1g3 i1g4 i1g5)) (Or.inl c_1)).2.1.symm | exact (xrs_b (Lv := (nrm i0v0 i0v1 i0v2 i0v3 i0h i0v5 i0w i0k i0g1 i0g2 i0g3 i0g4 i0g5)) (An := az) (I0 := (nrm i0v0 i0v1 i0v2 i0v3 i0h i0v5 i0w i0k i0g1 i0g2 i0g3 i0g4 i0g5)) (I1 := (nrm i1v0 i1v1 i1v2 i1v3 i1h i1v5 i1w i1k i1g1 i1g2 i1g3 i1g4 i1g5)) (Or.inl c_1)).2.2.symm | exact (xrs_b (Lv := (nrm nv0 nv1 nv2 nv3 nhh nv5 nww nkk ng1 ng2 ng3 ng4 ng5)) (An := az) (I0 := (nrm i0v0 i0v1 i0v2 i0v3 i0h i0v5 i0w i0k i0g1 i0g2 i0g3 i0g4 i0g5)) (I1 := (nrm i1v0 i1v1 i1v2 i1v3 i1h i1v5 i1w i1k i1g1 i1g2 i1g3 i1g4 i1g5)) (Or.inl c_1)).1.symm)
  | (first | exact (xrs_b (Lv := (nrm i0v0 i0v1 i0v2 i0v3 i0h i0v5 i0w i0k i0g1 i0g2 i0g3 i0g4 i0g5)) (An := az) (I0 := (nrm i0v0 i0v1 i0v2 i0v3 i0h i0v5 i0w i0k i0g1 i0g2 i0g3 i0g4 i0g5)) (I1 := (nrm i1v0 i1v1 i1v2 i1v3 i1h i1v5 i1w i1k i1g1 i1g2 i1g3 i1g4 i1g5)) (Or.inr c_2)).2.1.symm | exact (xrs_b (Lv := (nrm i0v0 i0v1 i0v2 i0v3 i0h i0v5 i0w i0k i0g1 i0g2 i0g3 i0g4 i0g5)) (An := az) (I0 := (nrm i0v0 i0v1 i0v2 i0v3 i0h i0v5 i0w i0k i0g1 i0g2 i0g3 i0g4 i0g5)) (I1 := (nrm i1v0 i1v1 i1v2 i1v3 i1h i1v5 i1w i1k i1g1 i1g2 i1g3 i1g4 i1g5)) (Or.inr c_2)).2.2.symm | exact (xrs_b (Lv := (nrm nv0 nv1 nv2 nv3 nhh nv5 nww nkk ng1 ng2 ng3 ng4 ng5)) (An := az) (I0 := (nrm i0v0 i0v1 i0v2 i0v3 i0h i0v5 i0w i0k i0g1 i0g2 i0g3 i0g4 i0g5)) (I1 := (nrm i1v0 i1v1 i1v2 i1v3 i1h i1v5 i1w i1k i1g1 i1g2 i1g3 i1g4 i1g5)) (Or.inr c_2)).1.symm)
  | (have y := ((tX hL0 hg1 hg2 (by omega)).1 (by assumption)).1
     first | exact (xrs_00 (Lv := (nrm i0v0 i0v1 i0v2 i0v3 i0h i0v5 i0w i0k i0g1 i0g2 i0g3 i0g4 i0g5)) (An := az) (I0 := (nrm i0v0 i0v1 i0v2 i0v3 i0h i0v5 i0w i0k i0g1 i0g2 i0g3 i0g4 i0g5)) (I1 := (nrm i1v0 i1v1 i1v2 i1v3 i1h i1v5 i1w i1k i1g1 i1g2 i1g3 i1g4 i1g5)) (nr0.trans y)).2.1.symm | exact (xrs_00 (Lv := (nrm i0v0 i0v1 i0v2 i0v3 i0h i0v5 i0w i0k i0g1 i0g2 i0g3 i0g4 i0g5)) (An := az) (I0 := (nrm i0v0 i0v1 i0v2 i0v3 i0h i0v5 i0w i0k i0g1 i0g2 i0g3 i0g4 i0g5)) (I1 := (nrm i1v0 i1v1 i1v2 i1v3 i1h i1v5 i1w i1k i1g1 i1g2 i1g3 i1g4 i1g5)) (nr0.trans y)).2.2.symm | exact (xrs_00 (Lv := (nrm nv0 nv1 nv2 nv3 nhh nv5 nww nkk ng1 ng2 ng3 ng4 ng5)) (An := az) (I0 := (nrm i0v0 i0v1 i0v2 i0v3 i0h i0v5 i0w i0k i0g1 i0g2 i0g3 i0g4 i0g5)) (I1 := (nrm i1v0 i1v1 i1v2 i1v3 i1h i1v5 i1w i1k i1g1 i1g2 i1g3 i1g4 i1g5)) (nr0.trans y)).1.symm)
  | (have y := ((tX hL1 hg4 hg5 (by omega)).1 (by assumption)).1
     first | exact (xrs_10 (Lv := (nrm i0v0 i0v1 i0v2 i0v3 i0h i0v5 i0w i0k i0g1 i0g2 i0g3 i0g4 i0g5)) (An := az) (I0 := (nrm i0v0 i0v1 i0v2 i0v3 i0h i0v5 i0w i0k i0g1 i0g2 i0g3 i0g4 i0g5)) (I1 := (nrm i1v0 i1v1 i1v2 i1v3 i1h i1v5 i1w i1k i1g1 i1g2 i1g3 i1g4 i1g5)) (nr0.trans y)).2.1.symm | exact (xrs_10 (Lv := (nrm i0v0 i0v1 i0v2 i0v3 i0h i0v5 i0w i0k i0g1 i0g2 i0g3 i0g4 i0g5)) (An := az) (I0 := (nrm i0v0 i0v1 i0v2 i0v3 i0h i0v5 i0w i0k i0g1 i0g2 i0g3 i0g4 i0g5)) (I1 := (nrm i1v0 i1v1 i1v2 i1v3 i1h i1v5 i1w i1k i1g1 i1g2 i1g3 i1g4 i1g5)) (nr0.trans y)).2.2.symm | exact (xrs_10 (Lv := (nrm nv0 nv1 nv2 nv3 nhh nv5 nww nkk ng1 ng2 ng3 ng4 ng5)) (An := az) (I0 := (nrm i0v0 i0v1 i0v2 i0v3 i0h i0v5 i0w i0k i0g1 i0g2 i0g3 i0g4 i0g5)) (I1 := (nrm i1v0 i1v1 i1v2 i1v3 i1h i1v5 i1w i1k i1g1 i1g2 i1g3 i1g4 i1g5)) (nr0.trans y)).1.symm)
  | (have y := ((tX hL0 hg1 hg2 (by omega)).2 (by assumption)).1
     first | exact (xrs_01 (Lv := (nrm i0v0 i0v1 i0v2 i0v3 i0h i0v5 i0w i0k i0g1 i0g2 i0g3 i0g4 i0g5)) (An := az) (I0 := (nrm i0v0 i0v1 i0v2 i0v3 i0h i0v5 i0w i0k i0g1 i0g2 i0g3 i0g4 i0g5)) (I1 := (nrm i1v0 i1v1 i1v2 i1v3 i1h i1v5 i1w i1k i1g1 i1g2 i1g3 i1g4 i1g5)) (by rw [nr0]; exact y)).2.1.symm | exact (xrs_01 (Lv := (nrm i0v0 i0v1 i0v2 i0v3 i0h i0v5 i0w i0k i0g1 i0g2 i0g3 i0g4 i0g5)) (An := az) (I0 := (nrm i0v0 i0v1 i0v2 i0v3 i0h i0v5 i0w i0k i0g1 i0g2 i0g3 i0g4 i0g5)) (I1 := (nrm i1v0 i1v1 i1v2 i1v3 i1h i1v5 i1w i1k i1g1 i1g2 i1g3 i1g4 i1g5)) (by rw [nr0]; exact y)).2.2.symm | exact (nr_eq hg1 hg2 (by assumption) (by assumption) (by assumption) (by assumption) (by assumption)).trans (xrs_01 (Lv := (nrm nv0 nv1 nv2 nv3 nhh nv5 nww nkk ng1 ng2 ng3 ng4 ng5)) (An := az) (I0 := (nrm i0v0 i0v1 i0v2 i0v3 i0h i0v5 i0w i0k i0g1 i0g2 i0g3 i0g4 i0g5)) (I1 := (nrm i1v0 i1v1 i1v2 i1v3 i1h i1v5 i1w i1k i1g1 i1g2 i1g3 i1g4 i1g5)) (by rw [nr0]; exact y)).1.symm)
  | (have y := ((tX hL1 hg4 hg5 (by omega)).2 (by assumption)).1
     first | exact (xrs_11 (Lv := (nrm i0v0 i0v1 i0v2 i0v3 i0h i0v5 i0w i0k i0g1 i0g2 i0g3 i0g4 i0g5)) (An := az) (I0 := (nrm i0v0 i0v1 i0v2 i0v3 i0h i0v5 i0w i0k i0g1 i0g2 i0g3 i0g4 i0g5)) (I1 := (nrm i1v0 i1v1 i1v2 i1v3 i1h i1v5 i1w i1k i1g1 i1g2 i1g3 i1g4 i1g5)) (by rw [nr0]; exact y)).2.1.symm | exact (xrs_11 (Lv := (nrm i0v0 i0v1 i0v2 i0v3 i0h i0v5 i0w i0k i0g1 i0g2 i0g3 i0g4 i0g5)) (An := az) (I0 := (nrm i0v0 i0v1 i0v2 i0v3 i0h i0v5 i0w i0k i0g1 i0g2 i0g3 i0g4 i0g5)) (I1 := (nrm i1v0 i1v1 i1v2 i1v3 i1h i1v5 i1w i1k i1g1 i1g2 i1g3 i1g4 i1g5)) (by rw [nr0]; exact y)).2.2.symm | exact (nr_eq hg4 hg5 (by assumption) (by assumption) (by assumption) (by assumption) (by assumption)).trans (xrs_11 (Lv := (nrm nv0 nv1 nv2 nv3 nhh nv5 nww nkk ng1 ng2 ng3 ng4 ng5)) (An := az) (I0 := (nrm i0v0 i0v1 i0v2 i0v3 i0h i0v5 i0w i0k i0g1 i0g2 i0g3 i0g4 i0g5)) (I1 := (nrm i1v0 i1v1 i1v2 i1v3 i1h i1v5 i1w i1k i1g1 i1g2 i1g3 i1g4 i1g5)) (by rw [nr0]; exact y)).1.symm)
theorem lf_X7_restore_36 {nhh : Nat} {nww : Nat} {nkk : Nat} {fi : Nat → Option Nat} {i0 : Nat} {i0v0 : Int32} {i0v1 : Int32} {i0v2 : Int32} {i0v3 : Int32} {i0v5 : Int32} {i0h : Nat} {i0w : Nat} {i0k : Nat} {i0g1 : Nat → Int32} {i0g2 : Nat → Int32} {i0g3 : Nat → Int32} {i0g4 : Nat → Int32} {i0g5 : Nat → Int32} {i1 : Nat} {i1v0 : Int32} {i1v1 : Int32} {i1v2 : Int32} {i1v3 : Int32} {i1v5 : Int32} {i1h : Nat} {i1w : Nat} {i1k : Nat} {i1g1 : Nat → Int32} {i1g2 : Nat → Int32} {i1g3 : Nat → Int32} {i1g4 : Nat → Int32} {i1g5 : Nat → Int32} {az : Nat} {k0 : Int32} (nhb : nhh ≤ 999) (nwb : nww ≤ 6) (nkb : nkk ≤ 6) (hi0 : fi 0 = some i0) (hi1 : fi 1 = some i1) (hg0 : i0h ≤ 999) (hg1 : i0w ≤ 6) (hg2 : i0k ≤ 6) (hg3 : i1h ≤ 999) (hg4 : i1w ≤ 6) (hg5 : i1k ≤ 6) (haz : az ≤ 24) (hL0 : okLv (nrm i0v0 i0v1 i0v2 i0v3 i0h i0v5 i0w i0k i0g1 i0g2 i0g3 i0g4 i0g5)) (hL1 : okLv (nrm i1v0 i1v1 i1v2 i1v3 i1h i1v5 i1w i1k i1g1 i1g2 i1g3 i1g4 i1g5)) (c_1 : ¬ (k0 < 0)) (c_2 : ¬ (k0 < 2)) : nhh ≤ 999 := by
  first
  | assumption
  | omega
  | (first | exact (xrs_b (Lv := (nrm i0v0 i0v1 i0v2 i0v3 i0h i0v5 i0w i0k i0g1 i0g2 i0g3 i0g4 i0g5)) (An := az) (I0 := (nrm i0v0 i0v1 i0v2 i0v3 i0h i0v5 i0w i0k i0g1 i0g2 i0g3 i0g4 i0g5)) (I1 := (nrm i1v0 i1v1 i1v2 i1v3 i1h i1v5 i1w i1k i1g1 i1g2 i1g3 i1g4 i1g5)) (Or.inl c_1)).2.1.symm | exact (xrs_b (Lv := (nrm i0v0 i0v1 i0v2 i0v3 i0h i0v5 i0w i0k i0g1 i0g2 i0g3 i0g4 i0g5)) (An := az) (I0 := (nrm i0v0 i0v1 i0v2 i0v3 i0h i0v5 i0w i0k i0g1 i0g2 i0g3 i0g4 i0g5)) (I1 := (nrm i1v0 i1v1 i1v2 i1v3 i1h i1v5 i1w i1k i1g1 i1g2 i1g3 i1g4 i1g5)) (Or.inl c_1)).2.2.symm | exact (xrs_b (Lv := (nrm nv0 nv1 nv2 nv3 nhh nv5 nww nkk ng1 ng2 ng3 ng4 ng5)) (An := az) (I0 := (nrm i0v0 i0v1 i0v2 i0v3 i0h i0v5 i0w i0k i0g1 i0g2 i0g3 i0g4 i0g5)) (I1 := (nrm i1v0 i1v1 i1v2 i1v3 i1h i1v5 i1w i1k i1g1 i1g2 i1g3 i1g4 i1g5)) (Or.inl c_1)).1.symm)
  | (first | exact (xrs_b (Lv := (nrm i0v0 i0v1 i0v2 i0v3 i0h i0v5 i0w i0k i0g1 i0g2 i0g3 i0g4 i0g5)) (An := az) (I0 := (nrm i0v0 i0v1 i0v2 i0v3 i0h i0v5 i0w i0k i0g1 i0g2 i0g3 i0g4 i0g5)) (I1 := (nrm i1v0 i1v1 i1v2 i1v3 i1h i1v5 i1w i1k i1g1 i1g2 i1g3 i1g4 i1g5)) (Or.inr c_2)).2.1.symm | exact (xrs_b (Lv := (nrm i0v0 i0v1 i0v2 i0v3 i0h i0v5 i0w i0k i0g1 i0g2 i0g3 i0g4 i0g5)) (An := az) (I0 := (nrm i0v0 i0v1 i0v2 i0v3 i0h i0v5 i0w i0k i0g1 i0g2 i0g3 i0g4 i0g5)) (I1 := (nrm i1v0 i1v1 i1v2 i1v3 i1h i1v5 i1w i1k i1g1 i1g2 i1g3 i1g4 i1g5)) (Or.inr c_2)).2.2.symm | exact (xrs_b (Lv := (nrm nv0 nv1 nv2 nv3 nhh nv5 nww nkk ng1 ng2 ng3 ng4 ng5)) (An := az) (I0 := (nrm i0v0 i0v1 i0v2 i0v3 i0h i0v5 i0w i0k i0g1 i0g2 i0g3 i0g4 i0g5)) (I1 := (nrm i1v0 i1v1 i1v2 i1v3 i1h i1v5 i1w i1k i1g1 i1g2 i1g3 i1g4 i1g5)) (Or.inr c_2)).1.symm)
  | (have y := ((tX hL0 hg1 hg2 (by omega)).1 (by assumption)).1
     first | exact (xrs_00 (Lv := (nrm i0v0 i0v1 i0v2 i0v3 i0h i0v5 i0w i0k i0g1 i0g2 i0g3 i0g4 i0g5)) (An := az) (I0 := (nrm i0v0 i0v1 i0v2 i0v3 i0h i0v5 i0w i0k i0g1 i0g2 i0g3 i0g4 i0g5)) (I1 := (nrm i1v0 i1v1 i1v2 i1v3 i1h i1v5 i1w i1k i1g1 i1g2 i1g3 i1g4 i1g5)) (nr0.trans y)).2.1.symm | exact (xrs_00 (Lv := (nrm i0v0 i0v1 i0v2 i0v3 i0h i0v5 i0w i0k i0g1 i0g2 i0g3 i0g4 i0g5)) (An := az) (I0 := (nrm i0v0 i0v1 i0v2 i0v3 i0h i0v5 i0w i0k i0g1 i0g2 i0g3 i0g4 i0g5)) (I1 := (nrm i1v0 i1v1 i1v2 i1v3 i1h i1v5 i1w i1k i1g1 i1g2 i1g3 i1g4 i1g5)) (nr0.trans y)).2.2.symm | exact (xrs_00 (Lv := (nrm nv0 nv1 nv2 nv3 nhh nv5 nww nkk ng1 ng2 ng3 ng4 ng5)) (An := az) (I0 := (nrm i0v0 i0v1 i0v2 i0v3 i0h i0v5 i0w i0k i0g1 i0g2 i0g3 i0g4 i0g5)) (I1 := (nrm i1v0 i1v1 i1v2 i1v3 i1h i1v5 i1w i1k i1g1 i1g2 i1g3 i1g4 i1g5)) (nr0.trans y)).1.symm)
  | (have y := ((tX hL1 hg4 hg5 (by omega)).1 (by assumption)).1
     first | exact (xrs_10 (Lv := (nrm i0v0 i0v1 i0v2 i0v3 i0h i0v5 i0w i0k i0g1 i0g2 i0g3 i0g4 i0g5)) (An := az) (I0 := (nrm i0v0 i0v1 i0v2 i0v3 i0h i0v5 i0w i0k i0g1 i0g2 i0g3 i0g4 i0g5)) (I1 := (nrm i1v0 i1v1 i1v2 i1v3 i1h i1v5 i1w i1k i1g1 i1g2 i1g3 i1g4 i1g5)) (nr0.trans y)).2.1.symm | exact (xrs_10 (Lv := (nrm i0v0 i0v1 i0v2 i0v3 i0h i0v5 i0w i0k i0g1 i0g2 i0g3 i0g4 i0g5)) (An := az) (I0 := (nrm i0v0 i0v1 i0v2 i0v3 i0h i0v5 i0w i0k i0g1 i0g2 i0g3 i0g4 i0g5)) (I1 := (nrm i1v0 i1v1 i1v2 i1v3 i1h i1v5 i1w i1k i1g1 i1g2 i1g3 i1g4 i1g5)) (nr0.trans y)).2.2.symm | exact (xrs_10 (Lv := (nrm nv0 nv1 nv2 nv3 nhh nv5 nww nkk ng1 ng2 ng3 ng4 ng5)) (An := az) (I0 := (nrm i0v0 i0v1 i0v2 i0v3 i0h i0v5 i0w i0k i0g1 i0g2 i0g3 i0g4 i0g5)) (I1 := (nrm i1v0 i1v1 i1v2 i1v3 i1h i1v5 i1w i1k i1g1 i1g2 i1g3 i1g4 i1g5)) (nr0.trans y)).1.symm)
  | (have y := ((tX hL0 hg1 hg2 (by omega)).2 (by assumption)).1
     first | exact (xrs_01 (Lv := (nrm i0v0 i0v1 i0v2 i0v3 i0h i0v5 i0w i0k i0g1 i0g2 i0g3 i0g4 i0g5)) (An := az) (I0 := (nrm i0v0 i0v1 i0v2 i0v3 i0h i0v5 i0w i0k i0g1 i0g2 i0g3 i0g4 i0g5)) (I1 := (nrm i1v0 i1v1 i1v2 i1v3 i1h i1v5 i1w i1k i1g1 i1g2 i1g3 i1g4 i1g5)) (by rw [nr0]; exact y)).2.1.symm | exact (xrs_01 (Lv := (nrm i0v0 i0v1 i0v2 i0v3 i0h i0v5 i0w i0k i0g1 i0g2 i0g3 i0g4 i0g5)) (An := az) (I0 := (nrm i0v0 i0v1 i0v2 i0v3 i0h i0v5 i0w i0k i0g1 i0g2 i0g3 i0g4 i0g5)) (I1 := (nrm i1v0 i1v1 i1v2 i1v3 i1h i1v5 i1w i1k i1g1 i1g2 i1g3 i1g4 i1g5)) (by rw [nr0]; exact y)).2.2.symm | exact (nr_eq hg1 hg2 (by assumption) (by assumption) (by assumption) (by assumption) (by assumption)).trans (xrs_01 (Lv := (nrm nv0 nv1 nv2 nv3 nhh nv5 nww nkk ng1 ng2 ng3 ng4 ng5)) (An := az) (I0 := (nrm i0v0 i0v1 i0v2 i0v3 i0h i0v5 i0w i0k i0g1 i0g2 i0g3 i0g4 i0g5)) (I1 := (nrm i1v0 i1v1 i1v2 i1v3 i1h i1v5 i1w i1k i1g1 i1g2 i1g3 i1g4 i1g5)) (by rw [nr0]; exact y)).1.symm)
  | (have y := ((tX hL1 hg4 hg5 (by omega)).2 (by assumption)).1
     first | exact (xrs_11 (Lv := (nrm i0v0 i0v1 i0v2 i0v3 i0h i0v5 i0w i0k i0g1 i0g2 i0g3 i0g4 i0g5)) (An := az) (I0 := (nrm i0v0 i0v1 i0v2 i0v3 i0h i0v5 i0w i0k i0g1 i0g2 i0g3 i0g4 i0g5)) (I1 := (nrm i1v0 i1v1 i1v2 i1v3 i1h i1v5 i1w i1k i1g1 i1g2 i1g3 i1g4 i1g5)) (by rw [nr0]; exact y)).2.1.symm | exact (xrs_11 (Lv := (nrm i0v0 i0v1 i0v2 i0v3 i0h i0v5 i0w i0k i0g1 i0g2 i0g3 i0g4 i0g5)) (An := az) (I0 := (nrm i0v0 i0v1 i0v2 i0v3 i0h i0v5 i0w i0k i0g1 i0g2 i0g3 i0g4 i0g5)) (I1 := (nrm i1v0 i1v1 i1v2 i1v3 i1h i1v5 i1w i1k i1g1 i1g2 i1g3 i1g4 i1g5)) (by rw [nr0]; exact y)).2.2.symm | exact (nr_eq hg4 hg5 (by assumption) (by assumption) (by assumption) (by assumption) (by assumption)).trans (xrs_11 (Lv := (nrm nv0 nv1 nv2 nv3 nhh nv5 nww nkk ng1 ng2 ng3 ng4 ng5)) (An := az) (I0 := (nrm i0v0 i0v1 i0v2 i0v3 i0h i0v5 i0w i0k i0g1 i0g2 i0g3 i0g4 i0g5)) (I1 := (nrm i1v0 i1v1 i1v2 i1v3 i1h i1v5 i1w i1k i1g1 i1g2 i1g3 i1g4 i1g5)) (by rw [nr0]; exact y)).1.symm)
theorem lf_X7_restore_37 {nhh : Nat} {nww : Nat} {nkk : Nat} {fi : Nat → Option Nat} {i0 : Nat} {i0v0 : Int32} {i0v1 : Int32} {i0v2 : Int32} {i0v3 : Int32} {i0v5 : Int32} {i0h : Nat} {i0w : Nat} {i0k : Nat} {i0g1 : Nat → Int32} {i0g2 : Nat → Int32} {i0g3 : Nat → Int32} {i0g4 : Nat → Int32} {i0g5 : Nat → Int32} {i1 : Nat} {i1v0 : Int32} {i1v1 : Int32} {i1v2 : Int32} {i1v3 : Int32} {i1v5 : Int32} {i1h : Nat} {i1w : Nat} {i1k : Nat} {i1g1 : Nat → Int32} {i1g2 : Nat → Int32} {i1g3 : Nat → Int32} {i1g4 : Nat → Int32} {i1g5 : Nat → Int32} {az : Nat} {k0 : Int32} (nhb : nhh ≤ 999) (nwb : nww ≤ 6) (nkb : nkk ≤ 6) (hi0 : fi 0 = some i0) (hi1 : fi 1 = some i1) (hg0 : i0h ≤ 999) (hg1 : i0w ≤ 6) (hg2 : i0k ≤ 6) (hg3 : i1h ≤ 999) (hg4 : i1w ≤ 6) (hg5 : i1k ≤ 6) (haz : az ≤ 24) (hL0 : okLv (nrm i0v0 i0v1 i0v2 i0v3 i0h i0v5 i0w i0k i0g1 i0g2 i0g3 i0g4 i0g5)) (hL1 : okLv (nrm i1v0 i1v1 i1v2 i1v3 i1h i1v5 i1w i1k i1g1 i1g2 i1g3 i1g4 i1g5)) (c_1 : ¬ (k0 < 0)) (c_2 : ¬ (k0 < 2)) : nww ≤ 6 := by
  first
  | assumption
  | omega
  | (first | exact (xrs_b (Lv := (nrm i0v0 i0v1 i0v2 i0v3 i0h i0v5 i0w i0k i0g1 i0g2 i0g3 i0g4 i0g5)) (An := az) (I0 := (nrm i0v0 i0v1 i0v2 i0v3 i0h i0v5 i0w i0k i0g1 i0g2 i0g3 i0g4 i0g5)) (I1 := (nrm i1v0 i1v1 i1v2 i1v3 i1h i1v5 i1w i1k i1g1 i1g2 i1g3 i1g4 i1g5)) (Or.inl c_1)).2.1.symm | exact (xrs_b (Lv := (nrm i0v0 i0v1 i0v2 i0v3 i0h i0v5 i0w i0k i0g1 i0g2 i0g3 i0g4 i0g5)) (An := az) (I0 := (nrm i0v0 i0v1 i0v2 i0v3 i0h i0v5 i0w i0k i0g1 i0g2 i0g3 i0g4 i0g5)) (I1 := (nrm i1v0 i1v1 i1v2 i1v3 i1h i1v5 i1w i1k i1g1 i1g2 i1g3 i1g4 i1g5)) (Or.inl c_1)).2.2.symm | exact (xrs_b (Lv := (nrm nv0 nv1 nv2 nv3 nhh nv5 nww nkk ng1 ng2 ng3 ng4 ng5)) (An := az) (I0 := (nrm i0v0 i0v1 i0v2 i0v3 i0h i0v5 i0w i0k i0g1 i0g2 i0g3 i0g4 i0g5)) (I1 := (nrm i1v0 i1v1 i1v2 i1v3 i1h i1v5 i1w i1k i1g1 i1g2 i1g3 i1g4 i1g5)) (Or.inl c_1)).1.symm)
  | (first | exact (xrs_b (Lv := (nrm i0v0 i0v1 i0v2 i0v3 i0h i0v5 i0w i0k i0g1 i0g2 i0g3 i0g4 i0g5)) (An := az) (I0 := (nrm i0v0 i0v1 i0v2 i0v3 i0h i0v5 i0w i0k i0g1 i0g2 i0g3 i0g4 i0g5)) (I1 := (nrm i1v0 i1v1 i1v2 i1v3 i1h i1v5 i1w i1k i1g1 i1g2 i1g3 i1g4 i1g5)) (Or.inr c_2)).2.1.symm | exact (xrs_b (Lv := (nrm i0v0 i0v1 i0v2 i0v3 i0h i0v5 i0w i0k i0g1 i0g2 i0g3 i0g4 i0g5)) (An := az) (I0 := (nrm i0v0 i0v1 i0v2 i0v3 i0h i0v5 i0w i0k i0g1 i0g2 i0g3 i0g4 i0g5)) (I1 := (nrm i1v0 i1v1 i1v2 i1v3 i1h i1v5 i1w i1k i1g1 i1g2 i1g3 i1g4 i1g5)) (Or.inr c_2)).2.2.symm | exact (xrs_b (Lv := (nrm nv0 nv1 nv2 nv3 nhh nv5 nww nkk ng1 ng2 ng3 ng4 ng5)) (An := az) (I0 := (nrm i0v0 i0v1 i0v2 i0v3 i0h i0v5 i0w i0k i0g1 i0g2 i0g3 i0g4 i0g5)) (I1 := (nrm i1v0 i1v1 i1v2 i1v3 i1h i1v5 i1w i1k i1g1 i1g2 i1g3 i1g4 i1g5)) (Or.inr c_2)).1.symm)
  | (have y := ((tX hL0 hg1 hg2 (by omega)).1 (by assumption)).1
     first | exact (xrs_00 (Lv := (nrm i0v0 i0v1 i0v2 i0v3 i0h i0v5 i0w i0k i0g1 i0g2 i0g3 i0g4 i0g5)) (An := az) (I0 := (nrm i0v0 i0v1 i0v2 i0v3 i0h i0v5 i0w i0k i0g1 i0g2 i0g3 i0g4 i0g5)) (I1 := (nrm i1v0 i1v1 i1v2 i1v3 i1h i1v5 i1w i1k i1g1 i1g2 i1g3 i1g4 i1g5)) (nr0.trans y)).2.1.symm | exact (xrs_00 (Lv := (nrm i0v0 i0v1 i0v2 i0v3 i0h i0v5 i0w i0k i0g1 i0g2 i0g3 i0g4 i0g5)) (An := az) (I0 := (nrm i0v0 i0v1 i0v2 i0v3 i0h i0v5 i0w i0k i0g1 i0g2 i0g3 i0g4 i0g5)) (I1 := (nrm i1v0 i1v1 i1v2 i1v3 i1h i1v5 i1w i1k i1g1 i1g2 i1g3 i1g4 i1g5)) (nr0.trans y)).2.2.symm | exact (xrs_00 (Lv := (nrm nv0 nv1 nv2 nv3 nhh nv5 nww nkk ng1 ng2 ng3 ng4 ng5)) (An := az) (I0 := (nrm i0v0 i0v1 i0v2 i0v3 i0h i0v5 i0w i0k i0g1 i0g2 i0g3 i0g4 i0g5)) (I1 := (nrm i1v0 i1v1 i1v2 i1v3 i1h i1v5 i1w i1k i1g1 i1g2 i1g3 i1g4 i1g5)) (nr0.trans y)).1.symm)
  | (have y := ((tX hL1 hg4 hg5 (by omega)).1 (by assumption)).1
     first | exact (xrs_10 (Lv := (nrm i0v0 i0v1 i0v2 i0v3 i0h i0v5 i0w i0k i0g1 i0g2 i0g3 i0g4 i0g5)) (An := az) (I0 := (nrm i0v0 i0v1 i0v2 i0v3 i0h i0v5 i0w i0k i0g1 i0g2 i0g3 i0g4 i0g5)) (I1 := (nrm i1v0 i1v1 i1v2 i1v3 i1h i1v5 i1w i1k i1g1 i1g2 i1g3 i1g4 i1g5)) (nr0.trans y)).2.1.symm | exact (xrs_10 (Lv := (nrm i0v0 i0v1 i0v2 i0v3 i0h i0v5 i0w i0k i0g1 i0g2 i0g3 i0g4 i0g5)) (An := az) (I0 := (nrm i0v0 i0v1 i0v2 i0v3 i0h i0v5 i0w i0k i0g1 i0g2 i0g3 i0g4 i0g5)) (I1 := (nrm i1v0 i1v1 i1v2 i1v3 i1h i1v5 i1w i1k i1g1 i1g2 i1g3 i1g4 i1g5)) (nr0.trans y)).2.2.symm | exact (xrs_10 (Lv := (nrm nv0 nv1 nv2 nv3 nhh nv5 nww nkk ng1 ng2 ng3 ng4 ng5)) (An := az) (I0 := (nrm i0v0 i0v1 i0v2 i0v3 i0h i0v5 i0w i0k i0g1 i0g2 i0g3 i0g4 i0g5)) (I1 := (nrm i1v0 i1v1 i1v2 i1v3 i1h i1v5 i1w i1k i1g1 i1g2 i1g3 i1g4 i1g5)) (nr0.trans y)).1.symm)
  | (have y := ((tX hL0 hg1 hg2 (by omega)).2 (by assumption)).1
     first | exact (xrs_01 (Lv := (nrm i0v0 i0v1 i0v2 i0v3 i0h i0v5 i0w i0k i0g1 i0g2 i0g3 i0g4 i0g5)) (An := az) (I0 := (nrm i0v0 i0v1 i0v2 i0v3 i0h i0v5 i0w i0k i0g1 i0g2 i0g3 i0g4 i0g5)) (I1 := (nrm i1v0 i1v1 i1v2 i1v3 i1h i1v5 i1w i1k i1g1 i1g2 i1g3 i1g4 i1g5)) (by rw [nr0]; exact y)).2.1.symm | exact (xrs_01 (Lv := (nrm i0v0 i0v1 i0v2 i0v3 i0h i0v5 i0w i0k i0g1 i0g2 i0g3 i0g4 i0g5)) (An := az) (I0 := (nrm i0v0 i0v1 i0v2 i0v3 i0h i0v5 i0w i0k i0g1 i0g2 i0g3 i0g4 i0g5)) (I1 := (nrm i1v0 i1v1 i1v2 i1v3 i1h i1v5 i1w i1k i1g1 i1g2 i1g3 i1g4 i1g5)) (by rw [nr0]; exact y)).2.2.symm | exact (nr_eq hg1 hg2 (by assumption) (by assumption) (by assumption) (by assumption) (by assumption)).trans (xrs_01 (Lv := (nrm nv0 nv1 nv2 nv3 nhh nv5 nww nkk ng1 ng2 ng3 ng4 ng5)) (An := az) (I0 := (nrm i0v0 i0v1 i0v2 i0v3 i0h i0v5 i0w i0k i0g1 i0g2 i0g3 i0g4 i0g5)) (I1 := (nrm i1v0 i1v1 i1v2 i1v3 i1h i1v5 i1w i1k i1g1 i1g2 i1g3 i1g4 i1g5)) (by rw [nr0]; exact y)).1.symm)
  | (have y := ((tX hL1 hg4 hg5 (by omega)).2 (by assumption)).1
     first | exact (xrs_11 (Lv := (nrm i0v0 i0v1 i0v2 i0v3 i0h i0v5 i0w i0k i0g1 i0g2 i0g3 i0g4 i0g5)) (An := az) (I0 := (nrm i0v0 i0v1 i0v2 i0v3 i0h i0v5 i0w i0k i0g1 i0g2 i0g3 i0g4 i0g5)) (I1 := (nrm i1v0 i1v1 i1v2 i1v3 i1h i1v5 i1w i1k i1g1 i1g2 i1g3 i1g4 i1g5)) (by rw [nr0]; exact y)).2.1.symm | exact (xrs_11 (Lv := (nrm i0v0 i0v1 i0v2 i0v3 i0h i0v5 i0w i0k i0g1 i0g2 i0g3 i0g4 i0g5)) (An := az) (I0 := (nrm i0v0 i0v1 i0v2 i0v3 i0h i0v5 i0w i0k i0g1 i0g2 i0g3 i0g4 i0g5)) (I1 := (nrm i1v0 i1v1 i1v2 i1v3 i1h i1v5 i1w i1k i1g1 i1g2 i1g3 i1g4 i1g5)) (by rw [nr0]; exact y)).2.2.symm | exact (nr_eq hg4 hg5 (by assumption) (by assumption) (by assumption) (by assumption) (by assumption)).trans (xrs_11 (Lv := (nrm nv0 nv1 nv2 nv3 nhh nv5 nww nkk ng1 ng2 ng3 ng4 ng5)) (An := az) (I0 := (nrm i0v0 i0v1 i0v2 i0v3 i0h i0v5 i0w i0k i0g1 i0g2 i0g3 i0g4 i0g5)) (I1 := (nrm i1v0 i1v1 i1v2 i1v3 i1h i1v5 i1w i1k i1g1 i1g2 i1g3 i1g4 i1g5)) (by rw [nr0]; exact y)).1.symm)
theorem lf_X7_restore_38 {nhh : Nat} {nww : Nat} {nkk : Nat} {fi : Nat → Option Nat} {i0 : Nat} {i0v0 : Int32} {i0v1 : Int32} {i0v2 : Int32} {i0v3 : Int32} {i0v5 : Int32} {i0h : Nat} {i0w : Nat} {i0k : Nat} {i0g1 : Nat → Int32} {i0g2 : Nat → Int32} {i0g3 : Nat → Int32} {i0g4 : Nat → Int32} {i0g5 : Nat → Int32} {i1 : Nat} {i1v0 : Int32} {i1v1 : Int32} {i1v2 : Int32} {i1v3 : Int32} {i1v5 : Int32} {i1h : Nat} {i1w : Nat} {i1k : Nat} {i1g1 : Nat → Int32} {i1g2 : Nat → Int32} {i1g3 : Nat → Int32} {i1g4 : Nat → Int32} {i1g5 : Nat → Int32} {az : Nat} {k0 : Int32} (nhb : nhh ≤ 999) (nwb : nww ≤ 6) (nkb : nkk ≤ 6) (hi0 : fi 0 = some i0) (hi1 : fi 1 = some i1) (hg0 : i0h ≤ 999) (hg1 : i0w ≤ 6) (hg2 : i0k ≤ 6) (hg3 : i1h ≤ 999) (hg4 : i1w ≤ 6) (hg5 : i1k ≤ 6) (haz : az ≤ 24) (hL0 : okLv (nrm i0v0 i0v1 i0v2 i0v3 i0h i0v5 i0w i0k i0g1 i0g2 i0g3 i0g4 i0g5)) (hL1 : okLv (nrm i1v0 i1v1 i1v2 i1v3 i1h i1v5 i1w i1k i1g1 i1g2 i1g3 i1g4 i1g5)) (c_1 : ¬ (k0 < 0)) (c_2 : ¬ (k0 < 2)) : nkk ≤ 6 := by
  first
  | assumption
  | omega
  | (first | exact (xrs_b (Lv := (nrm i0v0 i0v1 i0v2 i0v3 i0h i0v5 i0w i0k i0g1 i0g2 i0g3 i0g4 i0g5)) (An := az) (I0 := (nrm i0v0 i0v1 i0v2 i0v3 i0h i0v5 i0w i0k i0g1 i0g2 i0g3 i0g4 i0g5)) (I1 := (nrm i1v0 i1v1 i1v2 i1v3 i1h i1v5 i1w i1k i1g1 i1g2 i1g3 i1g4 i1g5)) (Or.inl c_1)).2.1.symm | exact (xrs_b (Lv := (nrm i0v0 i0v1 i0v2 i0v3 i0h i0v5 i0w i0k i0g1 i0g2 i0g3 i0g4 i0g5)) (An := az) (I0 := (nrm i0v0 i0v1 i0v2 i0v3 i0h i0v5 i0w i0k i0g1 i0g2 i0g3 i0g4 i0g5)) (I1 := (nrm i1v0 i1v1 i1v2 i1v3 i1h i1v5 i1w i1k i1g1 i1g2 i1g3 i1g4 i1g5)) (Or.inl c_1)).2.2.symm | exact (xrs_b (Lv := (nrm nv0 nv1 nv2 nv3 nhh nv5 nww nkk ng1 ng2 ng3 ng4 ng5)) (An := az) (I0 := (nrm i0v0 i0v1 i0v2 i0v3 i0h i0v5 i0w i0k i0g1 i0g2 i0g3 i0g4 i0g5)) (I1 := (nrm i1v0 i1v1 i1v2 i1v3 i1h i1v5 i1w i1k i1g1 i1g2 i1g3 i1g4 i1g5)) (Or.inl c_1)).1.symm)
  | (first | exact (xrs_b (Lv := (nrm i0v0 i0v1 i0v2 i0v3 i0h i0v5 i0w i0k i0g1 i0g2 i0g3 i0g4 i0g5)) (An := az) (I0 := (nrm i0v0 i0v1 i0v2 i0v3 i0h i0v5 i0w i0k i0g1 i0g2 i0g3 i0g4 i0g5)) (I1 := (nrm i1v0 i1v1 i1v2 i1v3 i1h i1v5 i1w i1k i1g1 i1g2 i1g3 i1g4 i1g5)) (Or.inr c_2)).2.1.symm | exact (xrs_b (Lv := (nrm i0v0 i0v1 i0v2 i0v3 i0h i0v5 i0w i0k i0g1 i0g2 i0g3 i0g4 i0g5)) (An := az) (I0 := (nrm i0v0 i0v1 i0v2 i0v3 i0h i0v5 i0w i0k i0g1 i0g2 i0g3 i0g4 i0g5)) (I1 := (nrm i1v0 i1v1 i1v2 i1v3 i1h i1v5 i1w i1k i1g1 i1g2 i1g3 i1g4 i1g5)) (Or.inr c_2)).2.2.symm | exact (xrs_b (Lv := (nrm nv0 nv1 nv2 nv3 nhh nv5 nww nkk ng1 ng2 ng3 ng4 ng5)) (An := az) (I0 := (nrm i0v0 i0v1 i0v2 i0v3 i0h i0v5 i0w i0k i0g1 i0g2 i0g3 i0g4 i0g5)) (I1 := (nrm i1v0 i1v1 i1v2 i1v3 i1h i1v5 i1w i1k i1g1 i1g2 i1g3 i1g4 i1g5)) (Or.inr c_2)).1.symm)
  | (have y := ((tX hL0 hg1 hg2 (by omega)).1 (by assumption)).1
     first | exact (xrs_00 (Lv := (nrm i0v0 i0v1 i0v2 i0v3 i0h i0v5 i0w i0k i0g1 i0g2 i0g3 i0g4 i0g5)) (An := az) (I0 := (nrm i0v0 i0v1 i0v2 i0v3 i0h i0v5 i0w i0k i0g1 i0g2 i0g3 i0g4 i0g5)) (I1 := (nrm i1v0 i1v1 i1v2 i1v3 i1h i1v5 i1w i1k i1g1 i1g2 i1g3 i1g4 i1g5)) (nr0.trans y)).2.1.symm | exact (xrs_00 (Lv := (nrm i0v0 i0v1 i0v2 i0v3 i0h i0v5 i0w i0k i0g1 i0g2 i0g3 i0g4 i0g5)) (An := az) (I0 := (nrm i0v0 i0v1 i0v2 i0v3 i0h i0v5 i0w i0k i0g1 i0g2 i0g3 i0g4 i0g5)) (I1 := (nrm i1v0 i1v1 i1v2 i1v3 i1h i1v5 i1w i1k i1g1 i1g2 i1g3 i1g4 i1g5)) (nr0.trans y)).2.2.symm | exact (xrs_00 (Lv := (nrm nv0 nv1 nv2 nv3 nhh nv5 nww nkk ng1 ng2 ng3 ng4 ng5)) (An := az) (I0 := (nrm i0v0 i0v1 i0v2 i0v3 i0h i0v5 i0w i0k i0g1 i0g2 i0g3 i0g4 i0g5)) (I1 := (nrm i1v0 i1v1 i1v2 i1v3 i1h i1v5 i1w i1k i1g1 i1g2 i1g3 i1g4 i1g5)) (nr0.trans y)).1.symm)
  | (have y := ((tX hL1 hg4 hg5 (by omega)).1 (by assumption)).1
     first | exact (xrs_10 (Lv := (nrm i0v0 i0v1 i0v2 i0v3 i0h i0v5 i0w i0k i0g1 i0g2 i0g3 i0g4 i0g5)) (An := az) (I0 := (nrm i0v0 i0v1 i0v2 i0v3 i0h i0v5 i0w i0k i0g1 i0g2 i0g3 i0g4 i0g5)) (I1 := (nrm i1v0 i1v1 i1v2 i1v3 i1h i1v5 i1w i1k i1g1 i1g2 i1g3 i1g4 i1g5)) (nr0.trans y)).2.1.symm | exact (xrs_10 (Lv := (nrm i0v0 i0v1 i0v2 i0v3 i0h i0v5 i0w i0k i0g1 i0g2 i0g3 i0g4 i0g5)) (An := az) (I0 := (nrm i0v0 i0v1 i0v2 i0v3 i0h i0v5 i0w i0k i0g1 i0g2 i0g3 i0g4 i0g5)) (I1 := (nrm i1v0 i1v1 i1v2 i1v3 i1h i1v5 i1w i1k i1g1 i1g2 i1g3 i1g4 i1g5)) (nr0.trans y)).2.2.symm | exact (xrs_10 (Lv := (nrm nv0 nv1 nv2 nv3 nhh nv5 nww nkk ng1 ng2 ng3 ng4 ng5)) (An := az) (I0 := (nrm i0v0 i0v1 i0v2 i0v3 i0h i0v5 i0w i0k i0g1 i0g2 i0g3 i0g4 i0g5)) (I1 := (nrm i1v0 i1v1 i1v2 i1v3 i1h i1v5 i1w i1k i1g1 i1g2 i1g3 i1g4 i1g5)) (nr0.trans y)).1.symm)
  | (have y := ((tX hL0 hg1 hg2 (by omega)).2 (by assumption)).1
     first | exact (xrs_01 (Lv := (nrm i0v0 i0v1 i0v2 i0v3 i0h i0v5 i0w i0k i0g1 i0g2 i0g3 i0g4 i0g5)) (An := az) (I0 := (nrm i0v0 i0v1 i0v2 i0v3 i0h i0v5 i0w i0k i0g1 i0g2 i0g3 i0g4 i0g5)) (I1 := (nrm i1v0 i1v1 i1v2 i1v3 i1h i1v5 i1w i1k i1g1 i1g2 i1g3 i1g4 i1g5)) (by rw [nr0]; exact y)).2.1.symm | exact (xrs_01 (Lv := (nrm i0v0 i0v1 i0v2 i0v3 i0h i0v5 i0w i0k i0g1 i0g2 i0g3 i0g4 i0g5)) (An := az) (I0 := (nrm i0v0 i0v1 i0v2 i0v3 i0h i0v5 i0w i0k i0g1 i0g2 i0g3 i0g4 i0g5)) (I1 := (nrm i1v0 i1v1 i1v2 i1v3 i1h i1v5 i1w i1k i1g1 i1g2 i1g3 i1g4 i1g5)) (by rw [nr0]; exact y)).2.2.symm | exact (nr_eq hg1 hg2 (by assumption) (by assumption) (by assumption) (by assumption) (by assumption)).trans (xrs_01 (Lv := (nrm nv0 nv1 nv2 nv3 nhh nv5 nww nkk ng1 ng2 ng3 ng4 ng5)) (An := az) (I0 := (nrm i0v0 i0v1 i0v2 i0v3 i0h i0v5 i0w i0k i0g1 i0g2 i0g3 i0g4 i0g5)) (I1 := (nrm i1v0 i1v1 i1v2 i1v3 i1h i1v5 i1w i1k i1g1 i1g2 i1g3 i1g4 i1g5)) (by rw [nr0]; exact y)).1.symm)
  | (have y := ((tX hL1 hg4 hg5 (by omega)).2 (by assumption)).1
     first | exact (xrs_11 (Lv := (nrm i0v0 i0v1 i0v2 i0v3 i0h i0v5 i0w i0k i0g1 i0g2 i0g3 i0g4 i0g5)) (An := az) (I0 := (nrm i0v0 i0v1 i0v2 i0v3 i0h i0v5 i0w i0k i0g1 i0g2 i0g3 i0g4 i0g5)) (I1 := (nrm i1v0 i1v1 i1v2 i1v3 i1h i1v5 i1w i1k i1g1 i1g2 i1g3 i1g4 i1g5)) (by rw [nr0]; exact y)).2.1.symm | exact (xrs_11 (Lv := (nrm i0v0 i0v1 i0v2 i0v3 i0h i0v5 i0w i0k i0g1 i0g2 i0g3 i0g4 i0g5)) (An := az) (I0 := (nrm i0v0 i0v1 i0v2 i0v3 i0h i0v5 i0w i0k i0g1 i0g2 i0g3 i0g4 i0g5)) (I1 := (nrm i1v0 i1v1 i1v2 i1v3 i1h i1v5 i1w i1k i1g1 i1g2 i1g3 i1g4 i1g5)) (by rw [nr0]; exact y)).2.2.symm | exact (nr_eq hg4 hg5 (by assumption) (by assumption) (by assumption) (by assumption) (by assumption)).trans (xrs_11 (Lv := (nrm nv0 nv1 nv2 nv3 nhh nv5 nww nkk ng1 ng2 ng3 ng4 ng5)) (An := az) (I0 := (nrm i0v0 i0v1 i0v2 i0v3 i0h i0v5 i0w i0k i0g1 i0g2 i0g3 i0g4 i0g5)) (I1 := (nrm i1v0 i1v1 i1v2 i1v3 i1h i1v5 i1w i1k i1g1 i1g2 i1g3 i1g4 i1g5)) (by rw [nr0]; exact y)).1.symm)
theorem lf_X7_restore_39 {nhh : Nat} {nww : Nat} {nkk : Nat} {fi : Nat → Option Nat} {i0 : Nat} {i0v0 : Int32} {i0v1 : Int32} {i0v2 : Int32} {i0v3 : Int32} {i0v5 : Int32} {i0h : Nat} {i0w : Nat} {i0k : Nat} {i0g1 : Nat → Int32} {i0g2 : Nat → Int32} {i0g3 : Nat → Int32} {i0g4 : Nat → Int32} {i0g5 : Nat → Int32} {i1 : Nat} {i1v0 : Int32} {i1v1 : Int32} {i1v2 : Int32} {i1v3 : Int32} {i1v5 : Int32} {i1h : Nat} {i1w : Nat} {i1k : Nat} {i1g1 : Nat → Int32} {i1g2 : Nat → Int32} {i1g3 : Nat → Int32} {i1g4 : Nat → Int32} {i1g5 : Nat → Int32} {az : Nat} {k0 : Int32} (nhb : nhh ≤ 999) (nwb : nww ≤ 6) (nkb : nkk ≤ 6) (hi0 : fi 0 = some i0) (hi1 : fi 1 = some i1) (hg0 : i0h ≤ 999) (hg1 : i0w ≤ 6) (hg2 : i0k ≤ 6) (hg3 : i1h ≤ 999) (hg4 : i1w ≤ 6) (hg5 : i1k ≤ 6) (haz : az ≤ 24) (hL0 : okLv (nrm i0v0 i0v1 i0v2 i0v3 i0h i0v5 i0w i0k i0g1 i0g2 i0g3 i0g4 i0g5)) (hL1 : okLv (nrm i1v0 i1v1 i1v2 i1v3 i1h i1v5 i1w i1k i1g1 i1g2 i1g3 i1g4 i1g5)) (c_1 : ¬ (k0 < 0)) (c_2 : ¬ (k0 < 2)) : az ≤ 24 := by
  first
  | assumption
  | omega
  | (first | exact (xrs_b (Lv := (nrm i0v0 i0v1 i0v2 i0v3 i0h i0v5 i0w i0k i0g1 i0g2 i0g3 i0g4 i0g5)) (An := az) (I0 := (nrm i0v0 i0v1 i0v2 i0v3 i0h i0v5 i0w i0k i0g1 i0g2 i0g3 i0g4 i0g5)) (I1 := (nrm i1v0 i1v1 i1v2 i1v3 i1h i1v5 i1w i1k i1g1 i1g2 i1g3 i1g4 i1g5)) (Or.inl c_1)).2.1.symm | exact (xrs_b (Lv := (nrm i0v0 i0v1 i0v2 i0v3 i0h i0v5 i0w i0k i0g1 i0g2 i0g3 i0g4 i0g5)) (An := az) (I0 := (nrm i0v0 i0v1 i0v2 i0v3 i0h i0v5 i0w i0k i0g1 i0g2 i0g3 i0g4 i0g5)) (I1 := (nrm i1v0 i1v1 i1v2 i1v3 i1h i1v5 i1w i1k i1g1 i1g2 i1g3 i1g4 i1g5)) (Or.inl c_1)).2.2.symm | exact (xrs_b (Lv := (nrm nv0 nv1 nv2 nv3 nhh nv5 nww nkk ng1 ng2 ng3 ng4 ng5)) (An := az) (I0 := (nrm i0v0 i0v1 i0v2 i0v3 i0h i0v5 i0w i0k i0g1 i0g2 i0g3 i0g4 i0g5)) (I1 := (nrm i1v0 i1v1 i1v2 i1v3 i1h i1v5 i1w i1k i1g1 i1g2 i1g3 i1g4 i1g5)) (Or.inl c_1)).1.symm)
  | (first | exact (xrs_b (Lv := (nrm i0v0 i0v1 i0v2 i0v3 i0h i0v5 i0w i0k i0g1 i0g2 i0g3 i0g4 i0g5)) (An := az) (I0 := (nrm i0v0 i0v1 i0v2 i0v3 i0h i0v5 i0w i0k i0g1 i0g2 i0g3 i0g4 i0g5)) (I1 := (nrm i1v0 i1v1 i1v2 i1v3 i1h i1v5 i1w i1k i1g1 i1g2 i1g3 i1g4 i1g5)) (Or.inr c_2)).2.1.symm | exact (xrs_b (Lv := (nrm i0v0 i0v1 i0v2 i0v3 i0h i0v5 i0w i0k i0g1 i0g2 i0g3 i0g4 i0g5)) (An := az) (I0 := (nrm i0v0 i0v1 i0v2 i0v3 i0h i0v5 i0w i0k i0g1 i0g2 i0g3 i0g4 i0g5)) (I1 := (nrm i1v0 i1v1 i1v2 i1v3 i1h i1v5 i1w i1k i1g1 i1g2 i1g3 i1g4 i1g5)) (Or.inr c_2)).2.2.symm | exact (xrs_b (Lv := (nrm nv0 nv1 nv2 nv3 nhh nv5 nww nkk ng1 ng2 ng3 ng4 ng5)) (An := az) (I0 := (nrm i0v0 i0v1 i0v2 i0v3 i0h i0v5 i0w i0k i0g1 i0g2 i0g3 i0g4 i0g5)) (I1 := (nrm i1v0 i1v1 i1v2 i1v3 i1h i1v5 i1w i1k i1g1 i1g2 i1g3 i1g4 i1g5)) (Or.inr c_2)).1.symm)
  | (have y := ((tX hL0 hg1 hg2 (by omega)).1 (by assumption)).1
     first | exact (xrs_00 (Lv := (nrm i0v0 i0v1 i0v2 i0v3 i0h i0v5 i0w i0k i0g1 i0g2 i0g3 i0g4 i0g5)) (An := az) (I0 := (nrm i0v0 i0v1 i0v2 i0v3 i0h i0v5 i0w i0k i0g1 i0g2 i0g3 i0g4 i0g5)) (I1 := (nrm i1v0 i1v1 i1v2 i1v3 i1h i1v5 i1w i1k i1g1 i1g2 i1g3 i1g4 i1g5)) (nr0.trans y)).2.1.symm | exact (xrs_00 (Lv := (nrm i0v0 i0v1 i0v2 i0v3 i0h i0v5 i0w i0k i0g1 i0g2 i0g3 i0g4 i0g5)) (An := az) (I0 := (nrm i0v0 i0v1 i0v2 i0v3 i0h i0v5 i0w i0k i0g1 i0g2 i0g3 i0g4 i0g5)) (I1 := (nrm i1v0 i1v1 i1v2 i1v3 i1h i1v5 i1w i1k i1g1 i1g2 i1g3 i1g4 i1g5)) (nr0.trans y)).2.2.symm | exact (xrs_00 (Lv := (nrm nv0 nv1 nv2 nv3 nhh nv5 nww nkk ng1 ng2 ng3 ng4 ng5)) (An := az) (I0 := (nrm i0v0 i0v1 i0v2 i0v3 i0h i0v5 i0w i0k i0g1 i0g2 i0g3 i0g4 i0g5)) (I1 := (nrm i1v0 i1v1 i1v2 i1v3 i1h i1v5 i1w i1k i1g1 i1g2 i1g3 i1g4 i1g5)) (nr0.trans y)).1.symm)
  | (have y := ((tX hL1 hg4 hg5 (by omega)).1 (by assumption)).1
     first | exact (xrs_10 (Lv := (nrm i0v0 i0v1 i0v2 i0v3 i0h i0v5 i0w i0k i0g1 i0g2 i0g3 i0g4 i0g5)) (An := az) (I0 := (nrm i0v0 i0v1 i0v2 i0v3 i0h i0v5 i0w i0k i0g1 i0g2 i0g3 i0g4 i0g5)) (I1 := (nrm i1v0 i1v1 i1v2 i1v3 i1h i1v5 i1w i1k i1g1 i1g2 i1g3 i1g4 i1g5)) (nr0.trans y)).2.1.symm | exact (xrs_10 (Lv := (nrm i0v0 i0v1 i0v2 i0v3 i0h i0v5 i0w i0k i0g1 i0g2 i0g3 i0g4 i0g5)) (An := az) (I0 := (nrm i0v0 i0v1 i0v2 i0v3 i0h i0v5 i0w i0k i0g1 i0g2 i0g3 i0g4 i0g5)) (I1 := (nrm i1v0 i1v1 i1v2 i1v3 i1h i1v5 i1w i1k i1g1 i1g2 i1g3 i1g4 i1g5)) (nr0.trans y)).2.2.symm | exact (xrs_10 (Lv := (nrm nv0 nv1 nv2 nv3 nhh nv5 nww nkk ng1 ng2 ng3 ng4 ng5)) (An := az) (I0 := (nrm i0v0 i0v1 i0v2 i0v3 i0h i0v5 i0w i0k i0g1 i0g2 i0g3 i0g4 i0g5)) (I1 := (nrm i1v0 i1v1 i1v2 i1v3 i1h i1v5 i1w i1k i1g1 i1g2 i1g3 i1g4 i1g5)) (nr0.trans y)).1.symm)
  | (have y := ((tX hL0 hg1 hg2 (by omega)).2 (by assumption)).1
     first | exact (xrs_01 (Lv := (nrm i0v0 i0v1 i0v2 i0v3 i0h i0v5 i0w i0k i0g1 i0g2 i0g3 i0g4 i0g5)) (An := az) (I0 := (nrm i0v0 i0v1 i0v2 i0v3 i0h i0v5 i0w i0k i0g1 i0g2 i0g3 i0g4 i0g5)) (I1 := (nrm i1v0 i1v1 i1v2 i1v3 i1h i1v5 i1w i1k i1g1 i1g2 i1g3 i1g4 i1g5)) (by rw [nr0]; exact y)).2.1.symm | exact (xrs_01 (Lv := (nrm i0v0 i0v1 i0v2 i0v3 i0h i0v5 i0w i0k i0g1 i0g2 i0g3 i0g4 i0g5)) (An := az) (I0 := (nrm i0v0 i0v1 i0v2 i0v3 i0h i0v5 i0w i0k i0g1 i0g2 i0g3 i0g4 i0g5)) (I1 := (nrm i1v0 i1v1 i1v2 i1v3 i1h i1v5 i1w i1k i1g1 i1g2 i1g3 i1g4 i1g5)) (by rw [nr0]; exact y)).2.2.symm | exact (nr_eq hg1 hg2 (by assumption) (by assumption) (by assumption) (by assumption) (by assumption)).trans (xrs_01 (Lv := (nrm nv0 nv1 nv2 nv3 nhh nv5 nww nkk ng1 ng2 ng3 ng4 ng5)) (An := az) (I0 := (nrm i0v0 i0v1 i0v2 i0v3 i0h i0v5 i0w i0k i0g1 i0g2 i0g3 i0g4 i0g5)) (I1 := (nrm i1v0 i1v1 i1v2 i1v3 i1h i1v5 i1w i1k i1g1 i1g2 i1g3 i1g4 i1g5)) (by rw [nr0]; exact y)).1.symm)
  | (have y := ((tX hL1 hg4 hg5 (by omega)).2 (by assumption)).1
     first | exact (xrs_11 (Lv := (nrm i0v0 i0v1 i0v2 i0v3 i0h i0v5 i0w i0k i0g1 i0g2 i0g3 i0g4 i0g5)) (An := az) (I0 := (nrm i0v0 i0v1 i0v2 i0v3 i0h i0v5 i0w i0k i0g1 i0g2 i0g3 i0g4 i0g5)) (I1 := (nrm i1v0 i1v1 i1v2 i1v3 i1h i1v5 i1w i1k i1g1 i1g2 i1g3 i1g4 i1g5)) (by rw [nr0]; exact y)).2.1.symm | exact (xrs_11 (Lv := (nrm i0v0 i0v1 i0v2 i0v3 i0h i0v5 i0w i0k i0g1 i0g2 i0g3 i0g4 i0g5)) (An := az) (I0 := (nrm i0v0 i0v1 i0v2 i0v3 i0h i0v5 i0w i0k i0g1 i0g2 i0g3 i0g4 i0g5)) (I1 := (nrm i1v0 i1v1 i1v2 i1v3 i1h i1v5 i1w i1k i1g1 i1g2 i1g3 i1g4 i1g5)) (by rw [nr0]; exact y)).2.2.symm | exact (nr_eq hg4 hg5 (by assumption) (by assumption) (by assumption) (by assumption) (by assumption)).trans (xrs_11 (Lv := (nrm nv0 nv1 nv2 nv3 nhh nv5 nww nkk ng1 ng2 ng3 ng4 ng5)) (An := az) (I0 := (nrm i0v0 i0v1 i0v2 i0v3 i0h i0v5 i0w i0k i0g1 i0g2 i0g3 i0g4 i0g5)) (I1 := (nrm i1v0 i1v1 i1v2 i1v3 i1h i1v5 i1w i1k i1g1 i1g2 i1g3 i1g4 i1g5)) (by rw [nr0]; exact y)).1.symm)
theorem lf_X7_restore_40 {nv0 : Int32} {nv1 : Int32} {nv2 : Int32} {nv3 : Int32} {nv5 : Int32} {nhh : Nat} {nww : Nat} {nkk : Nat} {ng1 : Nat → Int32} {ng2 : Nat → Int32} {ng3 : Nat → Int32} {ng4 : Nat → Int32} {ng5 : Nat → Int32} {fi : Nat → Option Nat} {i0 : Nat} {i0v0 : Int32} {i0v1 : Int32} {i0v2 : Int32} {i0v3 : Int32} {i0v5 : Int32} {i0h : Nat} {i0w : Nat} {i0k : Nat} {i0g1 : Nat → Int32} {i0g2 : Nat → Int32} {i0g3 : Nat → Int32} {i0g4 : Nat → Int32} {i0g5 : Nat → Int32} {i1 : Nat} {i1v0 : Int32} {i1v1 : Int32} {i1v2 : Int32} {i1v3 : Int32} {i1v5 : Int32} {i1h : Nat} {i1w : Nat} {i1k : Nat} {i1g1 : Nat → Int32} {i1g2 : Nat → Int32} {i1g3 : Nat → Int32} {i1g4 : Nat → Int32} {i1g5 : Nat → Int32} {az : Nat} {k0 : Int32} (nhb : nhh ≤ 999) (nwb : nww ≤ 6) (nkb : nkk ≤ 6) (hi0 : fi 0 = some i0) (hi1 : fi 1 = some i1) (hg0 : i0h ≤ 999) (hg1 : i0w ≤ 6) (hg2 : i0k ≤ 6) (hg3 : i1h ≤ 999) (hg4 : i1w ≤ 6) (hg5 : i1k ≤ 6) (haz : az ≤ 24) (hL0 : okLv (nrm i0v0 i0v1 i0v2 i0v3 i0h i0v5 i0w i0k i0g1 i0g2 i0g3 i0g4 i0g5)) (hL1 : okLv (nrm i1v0 i1v1 i1v2 i1v3 i1h i1v5 i1w i1k i1g1 i1g2 i1g3 i1g4 i1g5)) (c_1 : ¬ (k0 < 0)) (c_2 : ¬ (k0 < 2)) : (nrm nv0 nv1 nv2 nv3 nhh nv5 nww nkk ng1 ng2 ng3 ng4 ng5) = n_rst (nrm nv0 nv1 nv2 nv3 nhh nv5 nww nkk ng1 ng2 ng3 ng4 ng5) (nrm i0v0 i0v1 i0v2 i0v3 i0h i0v5 i0w i0k i0g1 i0g2 i0g3 i0g4 i0g5) (nrm i1v0 i1v1 i1v2 i1v3 i1h i1v5 i1w i1k i1g1 i1g2 i1g3 i1g4 i1g5) k0 := by
  first
  | assumption
  | omega
  | (first | exact (xrs_b (Lv := (nrm i0v0 i0v1 i0v2 i0v3 i0h i0v5 i0w i0k i0g1 i0g2 i0g3 i0g4 i0g5)) (An := az) (I0 := (nrm i0v0 i0v1 i0v2 i0v3 i0h i0v5 i0w i0k i0g1 i0g2 i0g3 i0g4 i0g5)) (I1 := (nrm i1v0 i1v1 i1v2 i1v3 i1h i1v5 i1w i1k i1g1 i1g2 i1g3 i1g4 i1g5)) (Or.inl c_1)).2.1.symm | exact (xrs_b (Lv := (nrm i0v0 i0v1 i0v2 i0v3 i0h i0v5 i0w i0k i0g1 i0g2 i0g3 i0g4 i0g5)) (An := az) (I0 := (nrm i0v0 i0v1 i0v2 i0v3 i0h i0v5 i0w i0k i0g1 i0g2 i0g3 i0g4 i0g5)) (I1 := (nrm i1v0 i1v1 i1v2 i1v3 i1h i1v5 i1w i1k i1g1 i1g2 i1g3 i1g4 i1g5)) (Or.inl c_1)).2.2.symm | exact (xrs_b (Lv := (nrm nv0 nv1 nv2 nv3 nhh nv5 nww nkk ng1 ng2 ng3 ng4 ng5)) (An := az) (I0 := (nrm i0v0 i0v1 i0v2 i0v3 i0h i0v5 i0w i0k i0g1 i0g2 i0g3 i0g4 i0g5)) (I1 := (nrm i1v0 i1v1 i1v2 i1v3 i1h i1v5 i1w i1k i1g1 i1g2 i1g3 i1g4 i1g5)) (Or.inl c_1)).1.symm)
  | (first | exact (xrs_b (Lv := (nrm i0v0 i0v1 i0v2 i0v3 i0h i0v5 i0w i0k i0g1 i0g2 i0g3 i0g4 i0g5)) (An := az) (I0 := (nrm i0v0 i0v1 i0v2 i0v3 i0h i0v5 i0w i0k i0g1 i0g2 i0g3 i0g4 i0g5)) (I1 := (nrm i1v0 i1v1 i1v2 i1v3 i1h i1v5 i1w i1k i1g1 i1g2 i1g3 i1g4 i1g5)) (Or.inr c_2)).2.1.symm | exact (xrs_b (Lv := (nrm i0v0 i0v1 i0v2 i0v3 i0h i0v5 i0w i0k i0g1 i0g2 i0g3 i0g4 i0g5)) (An := az) (I0 := (nrm i0v0 i0v1 i0v2 i0v3 i0h i0v5 i0w i0k i0g1 i0g2 i0g3 i0g4 i0g5)) (I1 := (nrm i1v0 i1v1 i1v2 i1v3 i1h i1v5 i1w i1k i1g1 i1g2 i1g3 i1g4 i1g5)) (Or.inr c_2)).2.2.symm | exact (xrs_b (Lv := (nrm nv0 nv1 nv2 nv3 nhh nv5 nww nkk ng1 ng2 ng3 ng4 ng5)) (An := az) (I0 := (nrm i0v0 i0v1 i0v2 i0v3 i0h i0v5 i0w i0k i0g1 i0g2 i0g3 i0g4 i0g5)) (I1 := (nrm i1v0 i1v1 i1v2 i1v3 i1h i1v5 i1w i1k i1g1 i1g2 i1g3 i1g4 i1g5)) (Or.inr c_2)).1.symm)
  | (have y := ((tX hL0 hg1 hg2 (by omega)).1 (by assumption)).1
     first | exact (xrs_00 (Lv := (nrm i0v0 i0v1 i0v2 i0v3 i0h i0v5 i0w i0k i0g1 i0g2 i0g3 i0g4 i0g5)) (An := az) (I0 := (nrm i0v0 i0v1 i0v2 i0v3 i0h i0v5 i0w i0k i0g1 i0g2 i0g3 i0g4 i0g5)) (I1 := (nrm i1v0 i1v1 i1v2 i1v3 i1h i1v5 i1w i1k i1g1 i1g2 i1g3 i1g4 i1g5)) (nr0.trans y)).2.1.symm | exact (xrs_00 (Lv := (nrm i0v0 i0v1 i0v2 i0v3 i0h i0v5 i0w i0k i0g1 i0g2 i0g3 i0g4 i0g5)) (An := az) (I0 := (nrm i0v0 i0v1 i0v2 i0v3 i0h i0v5 i0w i0k i0g1 i0g2 i0g3 i0g4 i0g5)) (I1 := (nrm i1v0 i1v1 i1v2 i1v3 i1h i1v5 i1w i1k i1g1 i1g2 i1g3 i1g4 i1g5)) (nr0.trans y)).2.2.symm | exact (xrs_00 (Lv := (nrm nv0 nv1 nv2 nv3 nhh nv5 nww nkk ng1 ng2 ng3 ng4 ng5)) (An := az) (I0 := (nrm i0v0 i0v1 i0v2 i0v3 i0h i0v5 i0w i0k i0g1 i0g2 i0g3 i0g4 i0g5)) (I1 := (nrm i1v0 i1v1 i1v2 i1v3 i1h i1v5 i1w i1k i1g1 i1g2 i1g3 i1g4 i1g5)) (nr0.trans y)).1.symm)
  | (have y := ((tX hL1 hg4 hg5 (by omega)).1 (by assumption)).1
     first | exact (xrs_10 (Lv := (nrm i0v0 i0v1 i0v2 i0v3 i0h i0v5 i0w i0k i0g1 i0g2 i0g3 i0g4 i0g5)) (An := az) (I0 := (nrm i0v0 i0v1 i0v2 i0v3 i0h i0v5 i0w i0k i0g1 i0g2 i0g3 i0g4 i0g5)) (I1 := (nrm i1v0 i1v1 i1v2 i1v3 i1h i1v5 i1w i1k i1g1 i1g2 i1g3 i1g4 i1g5)) (nr0.trans y)).2.1.symm | exact (xrs_10 (Lv := (nrm i0v0 i0v1 i0v2 i0v3 i0h i0v5 i0w i0k i0g1 i0g2 i0g3 i0g4 i0g5)) (An := az) (I0 := (nrm i0v0 i0v1 i0v2 i0v3 i0h i0v5 i0w i0k i0g1 i0g2 i0g3 i0g4 i0g5)) (I1 := (nrm i1v0 i1v1 i1v2 i1v3 i1h i1v5 i1w i1k i1g1 i1g2 i1g3 i1g4 i1g5)) (nr0.trans y)).2.2.symm | exact (xrs_10 (Lv := (nrm nv0 nv1 nv2 nv3 nhh nv5 nww nkk ng1 ng2 ng3 ng4 ng5)) (An := az) (I0 := (nrm i0v0 i0v1 i0v2 i0v3 i0h i0v5 i0w i0k i0g1 i0g2 i0g3 i0g4 i0g5)) (I1 := (nrm i1v0 i1v1 i1v2 i1v3 i1h i1v5 i1w i1k i1g1 i1g2 i1g3 i1g4 i1g5)) (nr0.trans y)).1.symm)
  | (have y := ((tX hL0 hg1 hg2 (by omega)).2 (by assumption)).1
     first | exact (xrs_01 (Lv := (nrm i0v0 i0v1 i0v2 i0v3 i0h i0v5 i0w i0k i0g1 i0g2 i0g3 i0g4 i0g5)) (An := az) (I0 := (nrm i0v0 i0v1 i0v2 i0v3 i0h i0v5 i0w i0k i0g1 i0g2 i0g3 i0g4 i0g5)) (I1 := (nrm i1v0 i1v1 i1v2 i1v3 i1h i1v5 i1w i1k i1g1 i1g2 i1g3 i1g4 i1g5)) (by rw [nr0]; exact y)).2.1.symm | exact (xrs_01 (Lv := (nrm i0v0 i0v1 i0v2 i0v3 i0h i0v5 i0w i0k i0g1 i0g2 i0g3 i0g4 i0g5)) (An := az) (I0 := (nrm i0v0 i0v1 i0v2 i0v3 i0h i0v5 i0w i0k i0g1 i0g2 i0g3 i0g4 i0g5)) (I1 := (nrm i1v0 i1v1 i1v2 i1v3 i1h i1v5 i1w i1k i1g1 i1g2 i1g3 i1g4 i1g5)) (by rw [nr0]; exact y)).2.2.symm | exact (nr_eq hg1 hg2 (by assumption) (by assumption) (by assumption) (by assumption) (by assumption)).trans (xrs_01 (Lv := (nrm nv0 nv1 nv2 nv3 nhh nv5 nww nkk ng1 ng2 ng3 ng4 ng5)) (An := az) (I0 := (nrm i0v0 i0v1 i0v2 i0v3 i0h i0v5 i0w i0k i0g1 i0g2 i0g3 i0g4 i0g5)) (I1 := (nrm i1v0 i1v1 i1v2 i1v3 i1h i1v5 i1w i1k i1g1 i1g2 i1g3 i1g4 i1g5)) (by rw [nr0]; exact y)).1.symm)
  | (have y := ((tX hL1 hg4 hg5 (by omega)).2 (by assumption)).1
     first | exact (xrs_11 (Lv := (nrm i0v0 i0v1 i0v2 i0v3 i0h i0v5 i0w i0k i0g1 i0g2 i0g3 i0g4 i0g5)) (An := az) (I0 := (nrm i0v0 i0v1 i0v2 i0v3 i0h i0v5 i0w i0k i0g1 i0g2 i0g3 i0g4 i0g5)) (I1 := (nrm i1v0 i1v1 i1v2 i1v3 i1h i1v5 i1w i1k i1g1 i1g2 i1g3 i1g4 i1g5)) (by rw [nr0]; exact y)).2.1.symm | exact (xrs_11 (Lv := (nrm i0v0 i0v1 i0v2 i0v3 i0h i0v5 i0w i0k i0g1 i0g2 i0g3 i0g4 i0g5)) (An := az) (I0 := (nrm i0v0 i0v1 i0v2 i0v3 i0h i0v5 i0w i0k i0g1 i0g2 i0g3 i0g4 i0g5)) (I1 := (nrm i1v0 i1v1 i1v2 i1v3 i1h i1v5 i1w i1k i1g1 i1g2 i1g3 i1g4 i1g5)) (by rw [nr0]; exact y)).2.2.symm | exact (nr_eq hg4 hg5 (by assumption) (by assumption) (by assumption) (by assumption) (by assumption)).trans (xrs_11 (Lv := (nrm nv0 nv1 nv2 nv3 nhh nv5 nww nkk ng1 ng2 ng3 ng4 ng5)) (An := az) (I0 := (nrm i0v0 i0v1 i0v2 i0v3 i0h i0v5 i0w i0k i0g1 i0g2 i0g3 i0g4 i0g5)) (I1 := (nrm i1v0 i1v1 i1v2 i1v3 i1h i1v5 i1w i1k i1g1 i1g2 i1g3 i1g4 i1g5)) (by rw [nr0]; exact y)).1.symm)
theorem lf_X7_restore_41 {nhh : Nat} {nww : Nat} {nkk : Nat} {fi : Nat → Option Nat} {i0 : Nat} {i0v0 : Int32} {i0v1 : Int32} {i0v2 : Int32} {i0v3 : Int32} {i0v5 : Int32} {i0h : Nat} {i0w : Nat} {i0k : Nat} {i0g1 : Nat → Int32} {i0g2 : Nat → Int32} {i0g3 : Nat → Int32} {i0g4 : Nat → Int32} {i0g5 : Nat → Int32} {i1 : Nat} {i1v0 : Int32} {i1v1 : Int32} {i1v2 : Int32} {i1v3 : Int32} {i1v5 : Int32} {i1h : Nat} {i1w : Nat} {i1k : Nat} {i1g1 : Nat → Int32} {i1g2 : Nat → Int32} {i1g3 : Nat → Int32} {i1g4 : Nat → Int32} {i1g5 : Nat → Int32} {az : Nat} {k0 : Int32} (nhb : nhh ≤ 999) (nwb : nww ≤ 6) (nkb : nkk ≤ 6) (hi0 : fi 0 = some i0) (hi1 : fi 1 = some i1) (hg0 : i0h ≤ 999) (hg1 : i0w ≤ 6) (hg2 : i0k ≤ 6) (hg3 : i1h ≤ 999) (hg4 : i1w ≤ 6) (hg5 : i1k ≤ 6) (haz : az ≤ 24) (hL0 : okLv (nrm i0v0 i0v1 i0v2 i0v3 i0h i0v5 i0w i0k i0g1 i0g2 i0g3 i0g4 i0g5)) (hL1 : okLv (nrm i1v0 i1v1 i1v2 i1v3 i1h i1v5 i1w i1k i1g1 i1g2 i1g3 i1g4 i1g5)) (c_1 : ¬ (k0 < 0)) (c_2 : ¬ (k0 < 2)) : az = m_rst az (nrm i0v0 i0v1 i0v2 i0v3 i0h i0v5 i0w i0k i0g1 i0g2 i0g3 i0g4 i0g5) (nrm i1v0 i1v1 i1v2 i1v3 i1h i1v5 i1w i1k i1g1 i1g2 i1g3 i1g4 i1g5) k0 := by
  first
  | assumption
  | omega
  | (first | exact (xrs_b (Lv := (nrm i0v0 i0v1 i0v2 i0v3 i0h i0v5 i0w i0k i0g1 i0g2 i0g3 i0g4 i0g5)) (An := az) (I0 := (nrm i0v0 i0v1 i0v2 i0v3 i0h i0v5 i0w i0k i0g1 i0g2 i0g3 i0g4 i0g5)) (I1 := (nrm i1v0 i1v1 i1v2 i1v3 i1h i1v5 i1w i1k i1g1 i1g2 i1g3 i1g4 i1g5)) (Or.inl c_1)).2.1.symm | exact (xrs_b (Lv := (nrm i0v0 i0v1 i0v2 i0v3 i0h i0v5 i0w i0k i0g1 i0g2 i0g3 i0g4 i0g5)) (An := az) (I0 := (nrm i0v0 i0v1 i0v2 i0v3 i0h i0v5 i0w i0k i0g1 i0g2 i0g3 i0g4 i0g5)) (I1 := (nrm i1v0 i1v1 i1v2 i1v3 i1h i1v5 i1w i1k i1g1 i1g2 i1g3 i1g4 i1g5)) (Or.inl c_1)).2.2.symm | exact (xrs_b (Lv := (nrm nv0 nv1 nv2 nv3 nhh nv5 nww nkk ng1 ng2 ng3 ng4 ng5)) (An := az) (I0 := (nrm i0v0 i0v1 i0v2 i0v3 i0h i0v5 i0w i0k i0g1 i0g2 i0g3 i0g4 i0g5)) (I1 := (nrm i1v0 i1v1 i1v2 i1v3 i1h i1v5 i1w i1k i1g1 i1g2 i1g3 i1g4 i1g5)) (Or.inl c_1)).1.symm)
  | (first | exact (xrs_b (Lv := (nrm i0v0 i0v1 i0v2 i0v3 i0h i0v5 i0w i0k i0g1 i0g2 i0g3 i0g4 i0g5)) (An := az) (I0 := (nrm i0v0 i0v1 i0v2 i0v3 i0h i0v5 i0w i0k i0g1 i0g2 i0g3 i0g4 i0g5)) (I1 := (nrm i1v0 i1v1 i1v2 i1v3 i1h i1v5 i1w i1k i1g1 i1g2 i1g3 i1g4 i1g5)) (Or.inr c_2)).2.1.symm | exact (xrs_b (Lv := (nrm i0v0 i0v1 i0v2 i0v3 i0h i0v5 i0w i0k i0g1 i0g2 i0g3 i0g4 i0g5)) (An := az) (I0 := (nrm i0v0 i0v1 i0v2 i0v3 i0h i0v5 i0w i0k i0g1 i0g2 i0g3 i0g4 i0g5)) (I1 := (nrm i1v0 i1v1 i1v2 i1v3 i1h i1v5 i1w i1k i1g1 i1g2 i1g3 i1g4 i1g5)) (Or.inr c_2)).2.2.symm | exact (xrs_b (Lv := (nrm nv0 nv1 nv2 nv3 nhh nv5 nww nkk ng1 ng2 ng3 ng4 ng5)) (An := az) (I0 := (nrm i0v0 i0v1 i0v2 i0v3 i0h i0v5 i0w i0k i0g1 i0g2 i0g3 i0g4 i0g5)) (I1 := (nrm i1v0 i1v1 i1v2 i1v3 i1h i1v5 i1w i1k i1g1 i1g2 i1g3 i1g4 i1g5)) (Or.inr c_2)).1.symm)
  | (have y := ((tX hL0 hg1 hg2 (by omega)).1 (by assumption)).1
     first | exact (xrs_00 (Lv := (nrm i0v0 i0v1 i0v2 i0v3 i0h i0v5 i0w i0k i0g1 i0g2 i0g3 i0g4 i0g5)) (An := az) (I0 := (nrm i0v0 i0v1 i0v2 i0v3 i0h i0v5 i0w i0k i0g1 i0g2 i0g3 i0g4 i0g5)) (I1 := (nrm i1v0 i1v1 i1v2 i1v3 i1h i1v5 i1w i1k i1g1 i1g2 i1g3 i1g4 i1g5)) (nr0.trans y)).2.1.symm | exact (xrs_00 (Lv := (nrm i0v0 i0v1 i0v2 i0v3 i0h i0v5 i0w i0k i0g1 i0g2 i0g3 i0g4 i0g5)) (An := az) (I0 := (nrm i0v0 i0v1 i0v2 i0v3 i0h i0v5 i0w i0k i0g1 i0g2 i0g3 i0g4 i0g5)) (I1 := (nrm i1v0 i1v1 i1v2 i1v3 i1h i1v5 i1w i1k i1g1 i1g2 i1g3 i1g4 i1g5)) (nr0.trans y)).2.2.symm | exact (xrs_00 (Lv := (nrm nv0 nv1 nv2 nv3 nhh nv5 nww nkk ng1 ng2 ng3 ng4 ng5)) (An := az) (I0 := (nrm i0v0 i0v1 i0v2 i0v3 i0h i0v5 i0w i0k i0g1 i0g2 i0g3 i0g4 i0g5)) (I1 := (nrm i1v0 i1v1 i1v2 i1v3 i1h i1v5 i1w i1k i1g1 i1g2 i1g3 i1g4 i1g5)) (nr0.trans y)).1.symm)
  | (have y := ((tX hL1 hg4 hg5 (by omega)).1 (by assumption)).1
     first | exact (xrs_10 (Lv := (nrm i0v0 i0v1 i0v2 i0v3 i0h i0v5 i0w i0k i0g1 i0g2 i0g3 i0g4 i0g5)) (An := az) (I0 := (nrm i0v0 i0v1 i0v2 i0v3 i0h i0v5 i0w i0k i0g1 i0g2 i0g3 i0g4 i0g5)) (I1 := (nrm i1v0 i1v1 i1v2 i1v3 i1h i1v5 i1w i1k i1g1 i1g2 i1g3 i1g4 i1g5)) (nr0.trans y)).2.1.symm | exact (xrs_10 (Lv := (nrm i0v0 i0v1 i0v2 i0v3 i0h i0v5 i0w i0k i0g1 i0g2 i0g3 i0g4 i0g5)) (An := az) (I0 := (nrm i0v0 i0v1 i0v2 i0v3 i0h i0v5 i0w i0k i0g1 i0g2 i0g3 i0g4 i0g5)) (I1 := (nrm i1v0 i1v1 i1v2 i1v3 i1h i1v5 i1w i1k i1g1 i1g2 i1g3 i1g4 i1g5)) (nr0.trans y)).2.2.symm | exact (xrs_10 (Lv := (nrm nv0 nv1 nv2 nv3 nhh nv5 nww nkk ng1 ng2 ng3 ng4 ng5)) (An := az) (I0 := (nrm i0v0 i0v1 i0v2 i0v3 i0h i0v5 i0w i0k i0g1 i0g2 i0g3 i0g4 i0g5)) (I1 := (nrm i1v0 i1v1 i1v2 i1v3 i1h i1v5 i1w i1k i1g1 i1g2 i1g3 i1g4 i1g5)) (nr0.trans y)).1.symm)
  | (have y := ((tX hL0 hg1 hg2 (by omega)).2 (by assumption)).1
     first | exact (xrs_01 (Lv := (nrm i0v0 i0v1 i0v2 i0v3 i0h i0v5 i0w i0k i0g1 i0g2 i0g3 i0g4 i0g5)) (An := az) (I0 := (nrm i0v0 i0v1 i0v2 i0v3 i0h i0v5 i0w i0k i0g1 i0g2 i0g3 i0g4 i0g5)) (I1 := (nrm i1v0 i1v1 i1v2 i1v3 i1h i1v5 i1w i1k i1g1 i1g2 i1g3 i1g4 i1g5)) (by rw [nr0]; exact y)).2.1.symm | exact (xrs_01 (Lv := (nrm i0v0 i0v1 i0v2 i0v3 i0h i0v5 i0w i0k i0g1 i0g2 i0g3 i0g4 i0g5)) (An := az) (I0 := (nrm i0v0 i0v1 i0v2 i0v3 i0h i0v5 i0w i0k i0g1 i0g2 i0g3 i0g4 i0g5)) (I1 := (nrm i1v0 i1v1 i1v2 i1v3 i1h i1v5 i1w i1k i1g1 i1g2 i1g3 i1g4 i1g5)) (by rw [nr0]; exact y)).2.2.symm | exact (nr_eq hg1 hg2 (by assumption) (by assumption) (by assumption) (by assumption) (by assumption)).trans (xrs_01 (Lv := (nrm nv0 nv1 nv2 nv3 nhh nv5 nww nkk ng1 ng2 ng3 ng4 ng5)) (An := az) (I0 := (nrm i0v0 i0v1 i0v2 i0v3 i0h i0v5 i0w i0k i0g1 i0g2 i0g3 i0g4 i0g5)) (I1 := (nrm i1v0 i1v1 i1v2 i1v3 i1h i1v5 i1w i1k i1g1 i1g2 i1g3 i1g4 i1g5)) (by rw [nr0]; exact y)).1.symm)
  | (have y := ((tX hL1 hg4 hg5 (by omega)).2 (by assumption)).1
     first | exact (xrs_11 (Lv := (nrm i0v0 i0v1 i0v2 i0v3 i0h i0v5 i0w i0k i0g1 i0g2 i0g3 i0g4 i0g5)) (An := az) (I0 := (nrm i0v0 i0v1 i0v2 i0v3 i0h i0v5 i0w i0k i0g1 i0g2 i0g3 i0g4 i0g5)) (I1 := (nrm i1v0 i1v1 i1v2 i1v3 i1h i1v5 i1w i1k i1g1 i1g2 i1g3 i1g4 i1g5)) (by rw [nr0]; exact y)).2.1.symm | exact (xrs_11 (Lv := (nrm i0v0 i0v1 i0v2 i0v3 i0h i0v5 i0w i0k i0g1 i0g2 i0g3 i0g4 i0g5)) (An := az) (I0 := (nrm i0v0 i0v1 i0v2 i0v3 i0h i0v5 i0w i0k i0g1 i0g2 i0g3 i0g4 i0g5)) (I1 := (nrm i1v0 i1v1 i1v2 i1v3 i1h i1v5 i1w i1k i1g1 i1g2 i1g3 i1g4 i1g5)) (by rw [nr0]; exact y)).2.2.symm | exact (nr_eq hg4 hg5 (by assumption) (by assumption) (by assumption) (by assumption) (by assumption)).trans (xrs_11 (Lv := (nrm nv0 nv1 nv2 nv3 nhh nv5 nww nkk ng1 ng2 ng3 ng4 ng5)) (An := az) (I0 := (nrm i0v0 i0v1 i0v2 i0v3 i0h i0v5 i0w i0k i0g1 i0g2 i0g3 i0g4 i0g5)) (I1 := (nrm i1v0 i1v1 i1v2 i1v3 i1h i1v5 i1w i1k i1g1 i1g2 i1g3 i1g4 i1g5)) (by rw [nr0]; exact y)).1.symm)
theorem lf_X7_restore_42 {nhh : Nat} {nww : Nat} {nkk : Nat} {fi : Nat → Option Nat} {i0 : Nat} {i0v0 : Int32} {i0v1 : Int32} {i0v2 : Int32} {i0v3 : Int32} {i0v5 : Int32} {i0h : Nat} {i0w : Nat} {i0k : Nat} {i0g1 : Nat → Int32} {i0g2 : Nat → Int32} {i0g3 : Nat → Int32} {i0g4 : Nat → Int32} {i0g5 : Nat → Int32} {i1 : Nat} {i1v0 : Int32} {i1v1 : Int32} {i1v2 : Int32} {i1v3 : Int32} {i1v5 : Int32} {i1h : Nat} {i1w : Nat} {i1k : Nat} {i1g1 : Nat → Int32} {i1g2 : Nat → Int32} {i1g3 : Nat → Int32} {i1g4 : Nat → Int32} {i1g5 : Nat → Int32} {az : Nat} {k0 : Int32} (nhb : nhh ≤ 999) (nwb : nww ≤ 6) (nkb : nkk ≤ 6) (hi0 : fi 0 = some i0) (hi1 : fi 1 = some i1) (hg0 : i0h ≤ 999) (hg1 : i0w ≤ 6) (hg2 : i0k ≤ 6) (hg3 : i1h ≤ 999) (hg4 : i1w ≤ 6) (hg5 : i1k ≤ 6) (haz : az ≤ 24) (hL0 : okLv (nrm i0v0 i0v1 i0v2 i0v3 i0h i0v5 i0w i0k i0g1 i0g2 i0g3 i0g4 i0g5)) (hL1 : okLv (nrm i1v0 i1v1 i1v2 i1v3 i1h i1v5 i1w i1k i1g1 i1g2 i1g3 i1g4 i1g5)) (c_1 : ¬ (k0 < 0)) (c_2 : ¬ (k0 < 2)) : (-1000001) = (a_rst (nrm i0v0 i0v1 i0v2 i0v3 i0h i0v5 i0w i0k i0g1 i0g2 i0g3 i0g4 i0g5) (nrm i1v0 i1v1 i1v2 i1v3 i1h i1v5 i1w i1k i1g1 i1g2 i1g3 i1g4 i1g5) k0) := by
  first
  | assumption
  | omega
  | (first | exact (xrs_b (Lv := (nrm i0v0 i0v1 i0v2 i0v3 i0h i0v5 i0w i0k i0g1 i0g2 i0g3 i0g4 i0g5)) (An := az) (I0 := (nrm i0v0 i0v1 i0v2 i0v3 i0h i0v5 i0w i0k i0g1 i0g2 i0g3 i0g4 i0g5)) (I1 := (nrm i1v0 i1v1 i1v2 i1v3 i1h i1v5 i1w i1k i1g1 i1g2 i1g3 i1g4 i1g5)) (Or.inl c_1)).2.1.symm | exact (xrs_b (Lv := (nrm i0v0 i0v1 i0v2 i0v3 i0h i0v5 i0w i0k i0g1 i0g2 i0g3 i0g4 i0g5)) (An := az) (I0 := (nrm i0v0 i0v1 i0v2 i0v3 i0h i0v5 i0w i0k i0g1 i0g2 i0g3 i0g4 i0g5)) (I1 := (nrm i1v0 i1v1 i1v2 i1v3 i1h i1v5 i1w i1k i1g1 i1g2 i1g3 i1g4 i1g5)) (Or.inl c_1)).2.2.symm | exact (xrs_b (Lv := (nrm nv0 nv1 nv2 nv3 nhh nv5 nww nkk ng1 ng2 ng3 ng4 ng5)) (An := az) (I0 := (nrm i0v0 i0v1 i0v2 i0v3 i0h i0v5 i0w i0k i0g1 i0g2 i0g3 i0g4 i0g5)) (I1 := (nrm i1v0 i1v1 i1v2 i1v3 i1h i1v5 i1w i1k i1g1 i1g2 i1g3 i1g4 i1g5)) (Or.inl c_1)).1.symm)
  | (first | exact (xrs_b (Lv := (nrm i0v0 i0v1 i0v2 i0v3 i0h i0v5 i0w i0k i0g1 i0g2 i0g3 i0g4 i0g5)) (An := az) (I0 := (nrm i0v0 i0v1 i0v2 i0v3 i0h i0v5 i0w i0k i0g1 i0g2 i0g3 i0g4 i0g5)) (I1 := (nrm i1v0 i1v1 i1v2 i1v3 i1h i1v5 i1w i1k i1g1 i1g2 i1g3 i1g4 i1g5)) (Or.inr c_2)).2.1.symm | exact (xrs_b (Lv := (nrm i0v0 i0v1 i0v2 i0v3 i0h i0v5 i0w i0k i0g1 i0g2 i0g3 i0g4 i0g5)) (An := az) (I0 := (nrm i0v0 i0v1 i0v2 i0v3 i0h i0v5 i0w i0k i0g1 i0g2 i0g3 i0g4 i0g5)) (I1 := (nrm i1v0 i1v1 i1v2 i1v3 i1h i1v5 i1w i1k i1g1 i1g2 i1g3 i1g4 i1g5)) (Or.inr c_2)).2.2.symm | exact (xrs_b (Lv := (nrm nv0 nv1 nv2 nv3 nhh nv5 nww nkk ng1 ng2 ng3 ng4 ng5)) (An := az) (I0 := (nrm i0v0 i0v1 i0v2 i0v3 i0h i0v5 i0w i0k i0g1 i0g2 i0g3 i0g4 i0g5)) (I1 := (nrm i1v0 i1v1 i1v2 i1v3 i1h i1v5 i1w i1k i1g1 i1g2 i1g3 i1g4 i1g5)) (Or.inr c_2)).1.symm)
  | (have y := ((tX hL0 hg1 hg2 (by omega)).1 (by assumption)).1
     first | exact (xrs_00 (Lv := (nrm i0v0 i0v1 i0v2 i0v3 i0h i0v5 i0w i0k i0g1 i0g2 i0g3 i0g4 i0g5)) (An := az) (I0 := (nrm i0v0 i0v1 i0v2 i0v3 i0h i0v5 i0w i0k i0g1 i0g2 i0g3 i0g4 i0g5)) (I1 := (nrm i1v0 i1v1 i1v2 i1v3 i1h i1v5 i1w i1k i1g1 i1g2 i1g3 i1g4 i1g5)) (nr0.trans y)).2.1.symm | exact (xrs_00 (Lv := (nrm i0v0 i0v1 i0v2 i0v3 i0h i0v5 i0w i0k i0g1 i0g2 i0g3 i0g4 i0g5)) (An := az) (I0 := (nrm i0v0 i0v1 i0v2 i0v3 i0h i0v5 i0w i0k i0g1 i0g2 i0g3 i0g4 i0g5)) (I1 := (nrm i1v0 i1v1 i1v2 i1v3 i1h i1v5 i1w i1k i1g1 i1g2 i1g3 i1g4 i1g5)) (nr0.trans y)).2.2.symm | exact (xrs_00 (Lv := (nrm nv0 nv1 nv2 nv3 nhh nv5 nww nkk ng1 ng2 ng3 ng4 ng5)) (An := az) (I0 := (nrm i0v0 i0v1 i0v2 i0v3 i0h i0v5 i0w i0k i0g1 i0g2 i0g3 i0g4 i0g5)) (I1 := (nrm i1v0 i1v1 i1v2 i1v3 i1h i1v5 i1w i1k i1g1 i1g2 i1g3 i1g4 i1g5)) (nr0.trans y)).1.symm)
  | (have y := ((tX hL1 hg4 hg5 (by omega)).1 (by assumption)).1
     first | exact (xrs_10 (Lv := (nrm i0v0 i0v1 i0v2 i0v3 i0h i0v5 i0w i0k i0g1 i0g2 i0g3 i0g4 i0g5)) (An := az) (I0 := (nrm i0v0 i0v1 i0v2 i0v3 i0h i0v5 i0w i0k i0g1 i0g2 i0g3 i0g4 i0g5)) (I1 := (nrm i1v0 i1v1 i1v2 i1v3 i1h i1v5 i1w i1k i1g1 i1g2 i1g3 i1g4 i1g5)) (nr0.trans y)).2.1.symm | exact (xrs_10 (Lv := (nrm i0v0 i0v1 i0v2 i0v3 i0h i0v5 i0w i0k i0g1 i0g2 i0g3 i0g4 i0g5)) (An := az) (I0 := (nrm i0v0 i0v1 i0v2 i0v3 i0h i0v5 i0w i0k i0g1 i0g2 i0g3 i0g4 i0g5)) (I1 := (nrm i1v0 i1v1 i1v2 i1v3 i1h i1v5 i1w i1k i1g1 i1g2 i1g3 i1g4 i1g5)) (nr0.trans y)).2.2.symm | exact (xrs_10 (Lv := (nrm nv0 nv1 nv2 nv3 nhh nv5 nww nkk ng1 ng2 ng3 ng4 ng5)) (An := az) (I0 := (nrm i0v0 i0v1 i0v2 i0v3 i0h i0v5 i0w i0k i0g1 i0g2 i0g3 i0g4 i0g5)) (I1 := (nrm i1v0 i1v1 i1v2 i1v3 i1h i1v5 i1w i1k i1g1 i1g2 i1g3 i1g4 i1g5)) (nr0.trans y)).1.symm)
  | (have y := ((tX hL0 hg1 hg2 (by omega)).2 (by assumption)).1
     first | exact (xrs_01 (Lv := (nrm i0v0 i0v1 i0v2 i0v3 i0h i0v5 i0w i0k i0g1 i0g2 i0g3 i0g4 i0g5)) (An := az) (I0 := (nrm i0v0 i0v1 i0v2 i0v3 i0h i0v5 i0w i0k i0g1 i0g2 i0g3 i0g4 i0g5)) (I1 := (nrm i1v0 i1v1 i1v2 i1v3 i1h i1v5 i1w i1k i1g1 i1g2 i1g3 i1g4 i1g5)) (by rw [nr0]; exact y)).2.1.symm | exact (xrs_01 (Lv := (nrm i0v0 i0v1 i0v2 i0v3 i0h i0v5 i0w i0k i0g1 i0g2 i0g3 i0g4 i0g5)) (An := az) (I0 := (nrm i0v0 i0v1 i0v2 i0v3 i0h i0v5 i0w i0k i0g1 i0g2 i0g3 i0g4 i0g5)) (I1 := (nrm i1v0 i1v1 i1v2 i1v3 i1h i1v5 i1w i1k i1g1 i1g2 i1g3 i1g4 i1g5)) (by rw [nr0]; exact y)).2.2.symm | exact (nr_eq hg1 hg2 (by assumption) (by assumption) (by assumption) (by assumption) (by assumption)).trans (xrs_01 (Lv := (nrm nv0 nv1 nv2 nv3 nhh nv5 nww nkk ng1 ng2 ng3 ng4 ng5)) (An := az) (I0 := (nrm i0v0 i0v1 i0v2 i0v3 i0h i0v5 i0w i0k i0g1 i0g2 i0g3 i0g4 i0g5)) (I1 := (nrm i1v0 i1v1 i1v2 i1v3 i1h i1v5 i1w i1k i1g1 i1g2 i1g3 i1g4 i1g5)) (by rw [nr0]; exact y)).1.symm)
  | (have y := ((tX hL1 hg4 hg5 (by omega)).2 (by assumption)).1
     first | exact (xrs_11 (Lv := (nrm i0v0 i0v1 i0v2 i0v3 i0h i0v5 i0w i0k i0g1 i0g2 i0g3 i0g4 i0g5)) (An := az) (I0 := (nrm i0v0 i0v1 i0v2 i0v3 i0h i0v5 i0w i0k i0g1 i0g2 i0g3 i0g4 i0g5)) (I1 := (nrm i1v0 i1v1 i1v2 i1v3 i1h i1v5 i1w i1k i1g1 i1g2 i1g3 i1g4 i1g5)) (by rw [nr0]; exact y)).2.1.symm | exact (xrs_11 (Lv := (nrm i0v0 i0v1 i0v2 i0v3 i0h i0v5 i0w i0k i0g1 i0g2 i0g3 i0g4 i0g5)) (An := az) (I0 := (nrm i0v0 i0v1 i0v2 i0v3 i0h i0v5 i0w i0k i0g1 i0g2 i0g3 i0g4 i0g5)) (I1 := (nrm i1v0 i1v1 i1v2 i1v3 i1h i1v5 i1w i1k i1g1 i1g2 i1g3 i1g4 i1g5)) (by rw [nr0]; exact y)).2.2.symm | exact (nr_eq hg4 hg5 (by assumption) (by assumption) (by assumption) (by assumption) (by assumption)).trans (xrs_11 (Lv := (nrm nv0 nv1 nv2 nv3 nhh nv5 nww nkk ng1 ng2 ng3 ng4 ng5)) (An := az) (I0 := (nrm i0v0 i0v1 i0v2 i0v3 i0h i0v5 i0w i0k i0g1 i0g2 i0g3 i0g4 i0g5)) (I1 := (nrm i1v0 i1v1 i1v2 i1v3 i1h i1v5 i1w i1k i1g1 i1g2 i1g3 i1g4 i1g5)) (by rw [nr0]; exact y)).1.symm)
set_option maxHeartbeats 4000000 in
set_option maxRecDepth 100000 in
theorem r_X7_restore (l : Launch) (dC : Nat → ClassId) (dI : Nat → Nat → Nat) (cI cZ cL cJ : ClassId) (sz : Nat) (x : Nat) (ro : Nat) (ta : Nat) (no : Nat) (ac : Nat) (im : Nat) (tr : Nat) (pl : Nat) (cs : Nat) (ak : Nat) (xf : Int32) (xg : Int32) (nv0 : Int32) (nv1 : Int32) (nv2 : Int32) (nv3 : Int32) (nv5 : Int32) (nhh : Nat) (nww : Nat) (nkk : Nat) (nb1 : Nat) (nb2 : Nat) (nb3 : Nat) (nb4 : Nat) (nb5 : Nat) (ng1 : Nat → Int32) (ng2 : Nat → Int32) (ng3 : Nat → Int32) (ng4 : Nat → Int32) (ng5 : Nat → Int32) (fi : Nat → Option Nat) (i0 : Nat) (i0v0 : Int32) (i0v1 : Int32) (i0v2 : Int32) (i0v3 : Int32) (i0v5 : Int32) (i0h : Nat) (i0w : Nat) (i0k : Nat) (i0b1 : Nat) (i0b2 : Nat) (i0b3 : Nat) (i0b4 : Nat) (i0b5 : Nat) (i0g1 : Nat → Int32) (i0g2 : Nat → Int32) (i0g3 : Nat → Int32) (i0g4 : Nat → Int32) (i0g5 : Nat → Int32) (i1 : Nat) (i1v0 : Int32) (i1v1 : Int32) (i1v2 : Int32) (i1v3 : Int32) (i1v5 : Int32) (i1h : Nat) (i1w : Nat) (i1k : Nat) (i1b1 : Nat) (i1b2 : Nat) (i1b3 : Nat) (i1b4 : Nat) (i1b5 : Nat) (i1g1 : Nat → Int32) (i1g2 : Nat → Int32) (i1g3 : Nat → Int32) (i1g4 : Nat → Int32) (i1g5 : Nat → Int32) (be : Nat) (q : Nat) (az : Nat) (k0 : Int32) (nhb : nhh ≤ 999) (nwb : nww ≤ 6) (nkb : nkk ≤ 6) (hi0 : fi 0 = some i0) (hi1 : fi 1 = some i1) (hg0 : i0h ≤ 999) (hg1 : i0w ≤ 6) (hg2 : i0k ≤ 6) (hg3 : i1h ≤ 999) (hg4 : i1w ≤ 6) (hg5 : i1k ≤ 6) (haz : az ≤ 24) (hL0 : okLv (nrm i0v0 i0v1 i0v2 i0v3 i0h i0v5 i0w i0k i0g1 i0g2 i0g3 i0g4 i0g5)) (hL1 : okLv (nrm i1v0 i1v1 i1v2 i1v3 i1h i1v5 i1w i1k i1g1 i1g2 i1g3 i1g4 i1g5)) : Met l yX7_restore wsX7_restore ({ frames := 2, cells := 0, slots := 0, locals := 101 }) (va_Pc [.ref x, .int k0] (fun U => U.heap.size = sz ∧ va_P (dC, dI) vwCl [(xo_7_rrrrrrrrrii x ro ta no ac im tr pl cs ak xf xg), (xo_3_iiiiiiiirrrrr no nv0 nv1 nv2 nv3 (nI nhh) nv5 (nI nww) (nI nkk) nb1 nb2 nb3 nb4 nb5), (xI nb1 cI 6 ng1), (xI nb2 cI 6 ng2), (xI nb3 cI 6 ng3), (xI nb4 cI 6 ng4), (xI nb5 cI 6 ng5), (xJ im cL 2 fi), (xo_0_rii ac be (nI q) (nI az)), (xo_3_iiiiiiiirrrrr i0 i0v0 i0v1 i0v2 i0v3 (nI i0h) i0v5 (nI i0w) (nI i0k) i0b1 i0b2 i0b3 i0b4 i0b5), (xI i0b1 cI 6 i0g1), (xI i0b2 cI 6 i0g2), (xI i0b3 cI 6 i0g3), (xI i0b4 cI 6 i0g4), (xI i0b5 cI 6 i0g5), (xo_3_iiiiiiiirrrrr i1 i1v0 i1v1 i1v2 i1v3 (nI i1h) i1v5 (nI i1w) (nI i1k) i1b1 i1b2 i1b3 i1b4 i1b5), (xI i1b1 cI 6 i1g1), (xI i1b2 cI 6 i1g2), (xI i1b3 cI 6 i1g3), (xI i1b4 cI 6 i1g4), (xI i1b5 cI 6 i1g5)] U.heap ∧ va_K (dC, dI) vwCl [(cI, .int), (cZ, .boolean), (cL, .object RX3), (cJ, .array .int)] U ∧ va_D (fun _ => True) [(xo_7_rrrrrrrrrii x ro ta no ac im tr pl cs ak xf xg), (xo_3_iiiiiiiirrrrr no nv0 nv1 nv2 nv3 (nI nhh) nv5 (nI nww) (nI nkk) nb1 nb2 nb3 nb4 nb5), (xI nb1 cI 6 ng1), (xI nb2 cI 6 ng2), (xI nb3 cI 6 ng3), (xI nb4 cI 6 ng4), (xI nb5 cI 6 ng5), (xJ im cL 2 fi), (xo_0_rii ac be (nI q) (nI az)), (xo_3_iiiiiiiirrrrr i0 i0v0 i0v1 i0v2 i0v3 (nI i0h) i0v5 (nI i0w) (nI i0k) i0b1 i0b2 i0b3 i0b4 i0b5), (xI i0b1 cI 6 i0g1), (xI i0b2 cI 6 i0g2), (xI i0b3 cI 6 i0g3), (xI i0b4 cI 6 i0g4), (xI i0b5 cI 6 i0g5), (xo_3_iiiiiiiirrrrr i1 i1v0 i1v1 i1v2 i1v3 (nI i1h) i1v5 (nI i1w) (nI i1k) i1b1 i1b2 i1b3 i1b4 i1b5), (xI i1b1 cI 6 i1g1), (xI i1b2 cI 6 i1g2), (xI i1b3 cI 6 i1g3), (xI i1b4 cI 6 i1g4), (xI i1b5 cI 6 i1g5)])) (va_Qi (fun r (_ : Unit) => r = (a_rst (nrm i0v0 i0v1 i0v2 i0v3 i0h i0v5 i0w i0k i0g1 i0g2 i0g3 i0g4 i0g5) (nrm i1v0 i1v1 i1v2 i1v3 i1h i1v5 i1w i1k i1g1 i1g2 i1g3 i1g4 i1g5) k0)) (fun (_ : Unit) t => ∃ (nv0n : Int32) (nv1n : Int32) (nv2n : Int32) (nv3n : Int32) (nv5n : Int32) (ng1n : Nat → Int32) (ng2n : Nat → Int32) (ng3n : Nat → Int32) (ng4n : Nat → Int32) (ng5n : Nat → Int32) (nhn : Nat) (nwn : Nat) (nkn : Nat) (azn : Nat), va_P (dC, dI) vwCl [(xo_7_rrrrrrrrrii x ro ta no ac im tr pl cs ak xf xg), (xo_3_iiiiiiiirrrrr no nv0n nv1n nv2n nv3n (nI nhn) nv5n (nI nwn) (nI nkn) nb1 nb2 nb3 nb4 nb5), (xI nb1 cI 6 ng1n), (xI nb2 cI 6 ng2n), (xI nb3 cI 6 ng3n), (xI nb4 cI 6 ng4n), (xI nb5 cI 6 ng5n), (xJ im cL 2 fi), (xo_0_rii ac be (nI q) (nI azn)), (xo_3_iiiiiiiirrrrr i0 i0v0 i0v1 i0v2 i0v3 (nI i0h) i0v5 (nI i0w) (nI i0k) i0b1 i0b2 i0b3 i0b4 i0b5), (xI i0b1 cI 6 i0g1), (xI i0b2 cI 6 i0g2), (xI i0b3 cI 6 i0g3), (xI i0b4 cI 6 i0g4), (xI i0b5 cI 6 i0g5), (xo_3_iiiiiiiirrrrr i1 i1v0 i1v1 i1v2 i1v3 (nI i1h) i1v5 (nI i1w) (nI i1k) i1b1 i1b2 i1b3 i1b4 i1b5), (xI i1b1 cI 6 i1g1), (xI i1b2 cI 6 i1g2), (xI i1b3 cI 6 i1g3), (xI i1b4 cI 6 i1g4), (xI i1b5 cI 6 i1g5)] t.heap ∧ va_D (va_A [(xo_7_rrrrrrrrrii x ro ta no ac im tr pl cs ak xf xg), (xo_3_iiiiiiiirrrrr no nv0 nv1 nv2 nv3 (nI nhh) nv5 (nI nww) (nI nkk) nb1 nb2 nb3 nb4 nb5), (xI nb1 cI 6 ng1), (xI nb2 cI 6 ng2), (xI nb3 cI 6 ng3), (xI nb4 cI 6 ng4), (xI nb5 cI 6 ng5), (xJ im cL 2 fi), (xo_0_rii ac be (nI q) (nI az)), (xo_3_iiiiiiiirrrrr i0 i0v0 i0v1 i0v2 i0v3 (nI i0h) i0v5 (nI i0w) (nI i0k) i0b1 i0b2 i0b3 i0b4 i0b5), (xI i0b1 cI 6 i0g1), (xI i0b2 cI 6 i0g2), (xI i0b3 cI 6 i0g3), (xI i0b4 cI 6 i0g4), (xI i0b5 cI 6 i0g5), (xo_3_iiiiiiiirrrrr i1 i1v0 i1v1 i1v2 i1v3 (nI i1h) i1v5 (nI i1w) (nI i1k) i1b1 i1b2 i1b3 i1b4 i1b5), (xI i1b1 cI 6 i1g1), (xI i1b2 cI 6 i1g2), (xI i1b3 cI 6 i1g3), (xI i1b4 cI 6 i1g4), (xI i1b5 cI 6 i1g5)] sz) [(xo_7_rrrrrrrrrii x ro ta no ac im tr pl cs ak xf xg), (xo_3_iiiiiiiirrrrr no nv0n nv1n nv2n nv3n (nI nhn) nv5n (nI nwn) (nI nkn) nb1 nb2 nb3 nb4 nb5), (xI nb1 cI 6 ng1n), (xI nb2 cI 6 ng2n), (xI nb3 cI 6 ng3n), (xI nb4 cI 6 ng4n), (xI nb5 cI 6 ng5n), (xJ im cL 2 fi), (xo_0_rii ac be (nI q) (nI azn)), (xo_3_iiiiiiiirrrrr i0 i0v0 i0v1 i0v2 i0v3 (nI i0h) i0v5 (nI i0w) (nI i0k) i0b1 i0b2 i0b3 i0b4 i0b5), (xI i0b1 cI 6 i0g1), (xI i0b2 cI 6 i0g2), (xI i0b3 cI 6 i0g3), (xI i0b4 cI 6 i0g4), (xI i0b5 cI 6 i0g5), (xo_3_iiiiiiiirrrrr i1 i1v0 i1v1 i1v2 i1v3 (nI i1h) i1v5 (nI i1w) (nI i1k) i1b1 i1b2 i1b3 i1b4 i1b5), (xI i1b1 cI 6 i1g1), (xI i1b2 cI 6 i1g2), (xI i1b3 cI 6 i1g3), (xI i1b4 cI 6 i1g4), (xI i1b5 cI 6 i1g5)] ∧ nhn ≤ 999 ∧ nwn ≤ 6 ∧ nkn ≤ 6 ∧ azn ≤ 24 ∧ (nrm nv0n nv1n nv2n nv3n nhn nv5n nwn nkn ng1n ng2n ng3n ng4n ng5n) = n_rst (nrm nv0 nv1 nv2 nv3 nhh nv5 nww nkk ng1 ng2 ng3 ng4 ng5) (nrm i0v0 i0v1 i0v2 i0v3 i0h i0v5 i0w i0k i0g1 i0g2 i0g3 i0g4 i0g5) (nrm i1v0 i1v1 i1v2 i1v3 i1h i1v5 i1w i1k i1g1 i1g2 i1g3 i1g4 i1g5) k0 ∧ azn = m_rst az (nrm i0v0 i0v1 i0v2 i0v3 i0h i0v5 i0w i0k i0g1 i0g2 i0g3 i0g4 i0g5) (nrm i1v0 i1v1 i1v2 i1v3 i1h i1v5 i1w i1k i1g1 i1g2 i1g3 i1g4 i1g5) k0) (va_A [(xo_7_rrrrrrrrrii x ro ta no ac im tr pl cs ak xf xg), (xo_3_iiiiiiiirrrrr no nv0 nv1 nv2 nv3 (nI nhh) nv5 (nI nww) (nI nkk) nb1 nb2 nb3 nb4 nb5), (xI nb1 cI 6 ng1), (xI nb2 cI 6 ng2), (xI nb3 cI 6 ng3), (xI nb4 cI 6 ng4), (xI nb5 cI 6 ng5), (xJ im cL 2 fi), (xo_0_rii ac be (nI q) (nI az)), (xo_3_iiiiiiiirrrrr i0 i0v0 i0v1 i0v2 i0v3 (nI i0h) i0v5 (nI i0w) (nI i0k) i0b1 i0b2 i0b3 i0b4 i0b5), (xI i0b1 cI 6 i0g1), (xI i0b2 cI 6 i0g2), (xI i0b3 cI 6 i0g3), (xI i0b4 cI 6 i0g4), (xI i0b5 cI 6 i0g5), (xo_3_iiiiiiiirrrrr i1 i1v0 i1v1 i1v2 i1v3 (nI i1h) i1v5 (nI i1w) (nI i1k) i1b1 i1b2 i1b3 i1b4 i1b5), (xI i1b1 cI 6 i1g1), (xI i1b2 cI 6 i1g2), (xI i1b3 cI 6 i1g3), (xI i1b4 cI 6 i1g4), (xI i1b5 cI 6 i1g5)] sz)) 0 0 (va_A [(xo_7_rrrrrrrrrii x ro ta no ac im tr pl cs ak xf xg), (xo_3_iiiiiiiirrrrr no nv0 nv1 nv2 nv3 (nI nhh) nv5 (nI nww) (nI nkk) nb1 nb2 nb3 nb4 nb5), (xI nb1 cI 6 ng1), (xI nb2 cI 6 ng2), (xI nb3 cI 6 ng3), (xI nb4 cI 6 ng4), (xI nb5 cI 6 ng5), (xJ im cL 2 fi), (xo_0_rii ac be (nI q) (nI az)), (xo_3_iiiiiiiirrrrr i0 i0v0 i0v1 i0v2 i0v3 (nI i0h) i0v5 (nI i0w) (nI i0k) i0b1 i0b2 i0b3 i0b4 i0b5), (xI i0b1 cI 6 i0g1), (xI i0b2 cI 6 i0g2), (xI i0b3 cI 6 i0g3), (xI i0b4 cI 6 i0g4), (xI i0b5 cI 6 i0g5), (xo_3_iiiiiiiirrrrr i1 i1v0 i1v1 i1v2 i1v3 (nI i1h) i1v5 (nI i1w) (nI i1k) i1b1 i1b2 i1b3 i1b4 i1b5), (xI i1b1 cI 6 i1g1), (xI i1b2 cI 6 i1g2), (xI i1b3 cI 6 i1g3), (xI i1b4 cI 6 i1g4), (xI i1b5 cI 6 i1g5)] sz) := by
  refine Met.ofW (cc := cX7_restore) (maxL := 2) (ret := (some .int)) (by decide) rfl ?_
  intro p e s m args below meth c s₁ B hml hv
  obtain ⟨rfl, hsz, hP, hK, hD0⟩ := hv
  have hx := B.exec
  have hb := B.bytes
  have hr := B.returns
  have hts := atoms_spec (ws := wsX7_restore) B.pre
  have hown : s.vm.findClass RX7 = some m.cls := findClass_of_methodNamed B.named
  have hlocks := B.notSynchronized
  subst hsz
  have hD := hD0.self (sz := s.heap.size)
  generalize hAe : va_A [(xo_7_rrrrrrrrrii x ro ta no ac im tr pl cs ak xf xg), (xo_3_iiiiiiiirrrrr no nv0 nv1 nv2 nv3 (nI nhh) nv5 (nI nww) (nI nkk) nb1 nb2 nb3 nb4 nb5), (xI nb1 cI 6 ng1), (xI nb2 cI 6 ng2), (xI nb3 cI 6 ng3), (xI nb4 cI 6 ng4), (xI nb5 cI 6 ng5), (xJ im cL 2 fi), (xo_0_rii ac be (nI q) (nI az)), (xo_3_iiiiiiiirrrrr i0 i0v0 i0v1 i0v2 i0v3 (nI i0h) i0v5 (nI i0w) (nI i0k) i0b1 i0b2 i0b3 i0b4 i0b5), (xI i0b1 cI 6 i0g1), (xI i0b2 cI 6 i0g2), (xI i0b3 cI 6 i0g3), (xI i0b4 cI 6 i0g4), (xI i0b5 cI 6 i0g5), (xo_3_iiiiiiiirrrrr i1 i1v0 i1v1 i1v2 i1v3 (nI i1h) i1v5 (nI i1w) (nI i1k) i1b1 i1b2 i1b3 i1b4 i1b5), (xI i1b1 cI 6 i1g1), (xI i1b2 cI 6 i1g2), (xI i1b3 cI 6 i1g3), (xI i1b4 cI 6 i1g4), (xI i1b5 cI 6 i1g5)] s.heap.size = A at hD ⊢
  have hA : ∀ q : Nat, s.heap.size ≤ q → A q := fun q h => by rw [← hAe]; exact Or.inr h
  have hS : va_S A s.heap s.heap [] := va_S.rf
  have hP : va_P (dC, dI) vwCl [(xo_7_rrrrrrrrrii x ro ta no ac im tr pl cs ak xf xg), (xo_3_iiiiiiiirrrrr no nv0 nv1 nv2 nv3 (nI nhh) nv5 (nI nww) (nI nkk) nb1 nb2 nb3 nb4 nb5), (xI nb1 cI 6 ng1), (xI nb2 cI 6 ng2), (xI nb3 cI 6 ng3), (xI nb4 cI 6 ng4), (xI nb5 cI 6 ng5), (xJ im cL 2 fi), (xo_0_rii ac be (nI q) (nI az)), (xo_3_iiiiiiiirrrrr i0 i0v0 i0v1 i0v2 i0v3 (nI i0h) i0v5 (nI i0w) (nI i0k) i0b1 i0b2 i0b3 i0b4 i0b5), (xI i0b1 cI 6 i0g1), (xI i0b2 cI 6 i0g2), (xI i0b3 cI 6 i0g3), (xI i0b4 cI 6 i0g4), (xI i0b5 cI 6 i0g5), (xo_3_iiiiiiiirrrrr i1 i1v0 i1v1 i1v2 i1v3 (nI i1h) i1v5 (nI i1w) (nI i1k) i1b1 i1b2 i1b3 i1b4 i1b5), (xI i1b1 cI 6 i1g1), (xI i1b2 cI 6 i1g2), (xI i1b3 cI 6 i1g3), (xI i1b4 cI 6 i1g4), (xI i1b5 cI 6 i1g5)] s.heap := hP
  have hl := lv_entry ([.ref x, .int k0]) (n := 2) (Nat.le_of_ble_eq_true rfl)
  rw [lg_entry_eq]
  generalize (lg_sl ([.ref x, .int k0]) ++ List.replicate (2 - (lg_sl ([.ref x, .int k0])).length) Slot.unset).toArray = ls at hl ⊢
  have hl : lv_has ls 2 [(0, .ref x), (1, .int k0)] := hl
  refine lv_iload_n hx hb dX7_restore_0 rfl (lv_at hl 1 rfl) ?_
  refine lv_if_lt (tgt := 13) hx hb dX7_restore_1 (by decide) (fun c_1 => ?_) (fun c_1 => ?_)
  · skip
    refine lv_ldc (own := RX7) (v := (-1000001)) hx hb hown (hts _ mx_X7_restore_2) dX7_restore_13 ?_
    have hX9 := cut2 (wc := [(xo_7_rrrrrrrrrii x ro ta no ac im tr pl cs ak xf xg), (xo_3_iiiiiiiirrrrr no nv0 nv1 nv2 nv3 (nI nhh) nv5 (nI nww) (nI nkk) nb1 nb2 nb3 nb4 nb5), (xI nb1 cI 6 ng1), (xI nb2 cI 6 ng2), (xI nb3 cI 6 ng3), (xI nb4 cI 6 ng4), (xI nb5 cI 6 ng5), (xJ im cL 2 fi), (xo_0_rii ac be (nI q) (nI az)), (xo_3_iiiiiiiirrrrr i0 i0v0 i0v1 i0v2 i0v3 (nI i0h) i0v5 (nI i0w) (nI i0k) i0b1 i0b2 i0b3 i0b4 i0b5), (xI i0b1 cI 6 i0g1), (xI i0b2 cI 6 i0g2), (xI i0b3 cI 6 i0g3), (xI i0b4 cI 6 i0g4), (xI i0b5 cI 6 i0g5), (xo_3_iiiiiiiirrrrr i1 i1v0 i1v1 i1v2 i1v3 (nI i1h) i1v5 (nI i1w) (nI i1k) i1b1 i1b2 i1b3 i1b4 i1b5), (xI i1b1 cI 6 i1g1), (xI i1b2 cI 6 i1g2), (xI i1b3 cI 6 i1g3), (xI i1b4 cI 6 i1g4), (xI i1b5 cI 6 i1g5)]) hP hD [0, 1, 2, 3, 4, 5, 6, 7, 8, 9, 10, 11, 12, 13, 14, 15, 16, 17, 18, 19, 20] (by decide +kernel) rfl
    exact W.iret (v := (-1000001)) hx hb hr (fun t ht hW => ⟨⟨(-1000001), (), rfl, (lf_X7_restore_7 nhb nwb nkb hi0 hi1 hg0 hg1 hg2 hg3 hg4 hg5 haz hL0 hL1 c_1), ⟨nv0, nv1, nv2, nv3, nv5, ng1, ng2, ng3, ng4, ng5, nhh, nww, nkk, az, va_Ht ht hX9.1, hX9.2, (lf_X7_restore_1 nhb nwb nkb hi0 hi1 hg0 hg1 hg2 hg3 hg4 hg5 haz hL0 hL1 c_1), (lf_X7_restore_2 nhb nwb nkb hi0 hi1 hg0 hg1 hg2 hg3 hg4 hg5 haz hL0 hL1 c_1), (lf_X7_restore_3 nhb nwb nkb hi0 hi1 hg0 hg1 hg2 hg3 hg4 hg5 haz hL0 hL1 c_1), (lf_X7_restore_4 nhb nwb nkb hi0 hi1 hg0 hg1 hg2 hg3 hg4 hg5 haz hL0 hL1 c_1), (lf_X7_restore_5 nhb nwb nkb hi0 hi1 hg0 hg1 hg2 hg3 hg4 hg5 haz hL0 hL1 c_1), (lf_X7_restore_6 nhb nwb nkb hi0 hi1 hg0 hg1 hg2 hg3 hg4 hg5 haz hL0 hL1 c_1)⟩⟩, hS.F ht⟩) hS.2.2 dX7_restore_15
  · skip
    refine lv_iload_n hx hb dX7_restore_4 rfl (lv_at hl 1 rfl) ?_
    refine lv_aload_n hx hb dX7_restore_5 rfl (lv_at hl 0 rfl) ?_
    refine va_get (D := (dC, dI)) (ci := 7) (v := .ref im) (C := RX7) (T := TX7) (N := 11) hx hb hts i_X7_restore_X7 hown hK hP 0 rfl rfl 4 (by decide) (hts _ mx_X7_restore_1) (fun _ h9 => h9) rfl dX7_restore_6 ?_
    refine va_alen (v := 2) hx hb hK hP 7 2 rfl rfl rfl dX7_restore_9 ?_
    refine lv_icmp_lt (tgt := 16) hx hb dX7_restore_10 (by decide) (fun c_2 => ?_) (fun c_2 => ?_)
    · skip
      rcases k_01 c_1 c_2 with rfl | rfl
      · skip
        refine lv_aload_n hx hb dX7_restore_16 rfl (lv_at hl 0 rfl) ?_
        refine va_get (D := (dC, dI)) (ci := 7) (v := .ref im) (C := RX7) (T := TX7) (N := 11) hx hb hts i_X7_restore_X7 hown hK hP 0 rfl rfl 4 (by decide) (hts _ mx_X7_restore_1) (fun _ h9 => h9) rfl dX7_restore_17 ?_
        refine lv_iload_n hx hb dX7_restore_20 rfl (lv_at hl 1 rfl) ?_
        refine va_aldq hx hb hK hP 7 2 rfl rfl (by unfold vp_in; decide) dX7_restore_21 ?_
        refine W.eq (g2 := F0 m 22 ls (.ref i0 :: [])) (by show F0 m 22 ls (va_rf (fi (0 : Int32).toNatClampNeg) :: _) = _; rw [show (0 : Int32).toNatClampNeg = 0 from rfl, hi0]; rfl) ?_
        have hPc_3 := hP.sub (ws' := [(xo_3_iiiiiiiirrrrr i0 i0v0 i0v1 i0v2 i0v3 (nI i0h) i0v5 (nI i0w) (nI i0k) i0b1 i0b2 i0b3 i0b4 i0b5), (xI i0b1 cI 6 i0g1), (xI i0b2 cI 6 i0g2), (xI i0b3 cI 6 i0g3), (xI i0b4 cI 6 i0g4), (xI i0b5 cI 6 i0g5)]) [9, 10, 11, 12, 13, 14] rfl
        refine vp_callSi (W.runV (As := []) (rest := []) ⟨hx, hb, hml, hown, hts⟩ (r_X3_isTold l dC dI cI cZ cL cJ i0 i0v0 i0v1 i0v2 i0v3 i0v5 i0h i0w i0k i0b1 i0b2 i0b3 i0b4 i0b5 i0g1 i0g2 i0g3 i0g4 i0g5 (by omega) (by omega) (by omega)) (cwV 0 hts gX7_restore_X3_isTold rfl rfl rfl (by decide +kernel) ⟨Nat.le_of_ble_eq_true rfl, Nat.le_of_ble_eq_true rfl⟩) (pvP 3 9 hK hP rfl rfl hPc_3) rfl rfl hl.1 rfl (lv_room (Nat.le_of_ble_eq_true rfl)) dX7_restore_22 ⟨Nat.le_of_ble_eq_true rfl, Nat.le_of_ble_eq_true rfl⟩) (fun r_3 h_3 => ?_)
        rcases h_3 with ⟨h_3, f_3_0_0⟩ | ⟨h_3, f_3_1_0⟩
        · subst h_3
          refine lv_if_ne (tgt := 31) hx hb dX7_restore_25 (by decide) (fun c_ => absurd (by decide) c_) (fun _ => ?_)
          refine lv_ldc (own := RX7) (v := (-1000002)) hx hb hown (hts _ mx_X7_restore_3) dX7_restore_28 ?_
          have hX9 := cut2 (wc := [(xo_7_rrrrrrrrrii x ro ta no ac im tr pl cs ak xf xg), (xo_3_iiiiiiiirrrrr no nv0 nv1 nv2 nv3 (nI nhh) nv5 (nI nww) (nI nkk) nb1 nb2 nb3 nb4 nb5), (xI nb1 cI 6 ng1), (xI nb2 cI 6 ng2), (xI nb3 cI 6 ng3), (xI nb4 cI 6 ng4), (xI nb5 cI 6 ng5), (xJ im cL 2 fi), (xo_0_rii ac be (nI q) (nI az)), (xo_3_iiiiiiiirrrrr i0 i0v0 i0v1 i0v2 i0v3 (nI i0h) i0v5 (nI i0w) (nI i0k) i0b1 i0b2 i0b3 i0b4 i0b5), (xI i0b1 cI 6 i0g1), (xI i0b2 cI 6 i0g2), (xI i0b3 cI 6 i0g3), (xI i0b4 cI 6 i0g4), (xI i0b5 cI 6 i0g5), (xo_3_iiiiiiiirrrrr i1 i1v0 i1v1 i1v2 i1v3 (nI i1h) i1v5 (nI i1w) (nI i1k) i1b1 i1b2 i1b3 i1b4 i1b5), (xI i1b1 cI 6 i1g1), (xI i1b2 cI 6 i1g2), (xI i1b3 cI 6 i1g3), (xI i1b4 cI 6 i1g4), (xI i1b5 cI 6 i1g5)]) hP hD [0, 1, 2, 3, 4, 5, 6, 7, 8, 9, 10, 11, 12, 13, 14, 15, 16, 17, 18, 19, 20] (by decide +kernel) rfl
          exact W.iret (v := (-1000002)) hx hb hr (fun t ht hW => ⟨⟨(-1000002), (), rfl, (lf_X7_restore_14 nhb nwb nkb hi0 hi1 hg0 hg1 hg2 hg3 hg4 hg5 haz hL0 hL1 c_1 c_2 f_3_0_0), ⟨nv0, nv1, nv2, nv3, nv5, ng1, ng2, ng3, ng4, ng5, nhh, nww, nkk, az, va_Ht ht hX9.1, hX9.2, (lf_X7_restore_8 nhb nwb nkb hi0 hi1 hg0 hg1 hg2 hg3 hg4 hg5 haz hL0 hL1 c_1 c_2 f_3_0_0), (lf_X7_restore_9 nhb nwb nkb hi0 hi1 hg0 hg1 hg2 hg3 hg4 hg5 haz hL0 hL1 c_1 c_2 f_3_0_0), (lf_X7_restore_10 nhb nwb nkb hi0 hi1 hg0 hg1 hg2 hg3 hg4 hg5 haz hL0 hL1 c_1 c_2 f_3_0_0), (lf_X7_restore_11 nhb nwb nkb hi0 hi1 hg0 hg1 hg2 hg3 hg4 hg5 haz hL0 hL1 c_1 c_2 f_3_0_0), (lf_X7_restore_12 nhb nwb nkb hi0 hi1 hg0 hg1 hg2 hg3 hg4 hg5 haz hL0 hL1 c_1 c_2 f_3_0_0), (lf_X7_restore_13 nhb nwb nkb hi0 hi1 hg0 hg1 hg2 hg3 hg4 hg5 haz hL0 hL1 c_1 c_2 f_3_0_0)⟩⟩, hS.F ht⟩) hS.2.2 dX7_restore_30
        · subst h_3
          refine lv_if_ne (tgt := 31) hx hb dX7_restore_25 (by decide) (fun _ => ?_) (fun c_ => absurd c_ (by decide))
          refine lv_aload_n hx hb dX7_restore_31 rfl (lv_at hl 0 rfl) ?_
          refine va_get (D := (dC, dI)) (ci := 7) (v := .ref no) (C := RX7) (T := TX7) (N := 11) hx hb hts i_X7_restore_X7 hown hK hP 0 rfl rfl 2 (by decide) (hts _ mx_X7_restore_4) (fun _ h9 => h9) rfl dX7_restore_32 ?_
          refine lv_aload_n hx hb dX7_restore_35 rfl (lv_at hl 0 rfl) ?_
          refine va_get (D := (dC, dI)) (ci := 7) (v := .ref im) (C := RX7) (T := TX7) (N := 11) hx hb hts i_X7_restore_X7 hown hK hP 0 rfl rfl 4 (by decide) (hts _ mx_X7_restore_1) (fun _ h9 => h9) rfl dX7_restore_36 ?_
          refine lv_iload_n hx hb dX7_restore_39 rfl (lv_at hl 1 rfl) ?_
          refine va_aldq hx hb hK hP 7 2 rfl rfl (by unfold vp_in; decide) dX7_restore_40 ?_
          refine W.eq (g2 := F0 m 41 ls (.ref i0 :: [.ref no])) (by show F0 m 41 ls (va_rf (fi (0 : Int32).toNatClampNeg) :: _) = _; rw [show (0 : Int32).toNatClampNeg = 0 from rfl, hi0]; rfl) ?_
          have hc_6 := cutW (wc := [(xo_3_iiiiiiiirrrrr no nv0 nv1 nv2 nv3 (nI nhh) nv5 (nI nww) (nI nkk) nb1 nb2 nb3 nb4 nb5), (xI nb1 cI 6 ng1), (xI nb2 cI 6 ng2), (xI nb3 cI 6 ng3), (xI nb4 cI 6 ng4), (xI nb5 cI 6 ng5), (xo_3_iiiiiiiirrrrr i0 i0v0 i0v1 i0v2 i0v3 (nI i0h) i0v5 (nI i0w) (nI i0k) i0b1 i0b2 i0b3 i0b4 i0b5), (xI i0b1 cI 6 i0g1), (xI i0b2 cI 6 i0g2), (xI i0b3 cI 6 i0g3), (xI i0b4 cI 6 i0g4), (xI i0b5 cI 6 i0g5)]) hP hD hS hA [1, 2, 3, 4, 5, 6, 9, 10, 11, 12, 13, 14] (by decide +kernel) rfl
          refine va_callv (va_runV (As := [.ref i0]) (rest := []) ⟨hx, hb, hml, hown, hts⟩ (r_X3_becomeLike l dC dI cI cZ cL cJ s.heap.size no nv0 nv1 nv2 nv3 (nI nhh) nv5 (nI nww) (nI nkk) nb1 nb2 nb3 nb4 nb5 ng1 ng2 ng3 ng4 ng5 i0 i0v0 i0v1 i0v2 i0v3 (nI i0h) i0v5 (nI i0w) (nI i0k) i0b1 i0b2 i0b3 i0b4 i0b5 i0g1 i0g2 i0g3 i0g4 i0g5 ) (cwV 1 hts gX7_restore_X3_becomeLike rfl rfl rfl (by decide +kernel) ⟨Nat.le_of_ble_eq_true rfl, Nat.le_of_ble_eq_true rfl⟩) (pvW 3 1 hK hP rfl rfl hc_6) rfl rfl hl.1 rfl (lv_room (Nat.le_of_ble_eq_true rfl)) dX7_restore_41 ⟨Nat.le_of_ble_eq_true rfl, Nat.le_of_ble_eq_true rfl⟩) hS (fun q _ h => hc_6.2.2 q h) hc_6.2.2 (fun u_6 t_6 H1 locs ht hvm h_6 hB hz1 hk1 hS => ?_)
          refine xl_5_7 hB (fun f1n_6 f2n_6 f3n_6 f4n_6 f5n_6 hP1 hD1 hF_6_0 hF_6_1 hF_6_2 hF_6_3 hF_6_4 => ?_)
          clear hB
          rw [ht] at hP1
          obtain ⟨hP, hD⟩ := va_join (wr := [(xo_7_rrrrrrrrrii x ro ta no ac im tr pl cs ak xf xg), (xJ im cL 2 fi), (xo_0_rii ac be (nI q) (nI az)), (xo_3_iiiiiiiirrrrr i1 i1v0 i1v1 i1v2 i1v3 (nI i1h) i1v5 (nI i1w) (nI i1k) i1b1 i1b2 i1b3 i1b4 i1b5), (xI i1b1 cI 6 i1g1), (xI i1b2 cI 6 i1g2), (xI i1b3 cI 6 i1g3), (xI i1b4 cI 6 i1g4), (xI i1b5 cI 6 i1g5)]) (w1 := [(xo_3_iiiiiiiirrrrr no i0v0 i0v1 i0v2 i0v3 (nI i0h) i0v5 (nI i0w) (nI i0k) nb1 nb2 nb3 nb4 nb5), (xI nb1 cI 6 f1n_6), (xI nb2 cI 6 f2n_6), (xI nb3 cI 6 f3n_6), (xI nb4 cI 6 f4n_6), (xI nb5 cI 6 f5n_6), (xo_3_iiiiiiiirrrrr i0 i0v0 i0v1 i0v2 i0v3 (nI i0h) i0v5 (nI i0w) (nI i0k) i0b1 i0b2 i0b3 i0b4 i0b5), (xI i0b1 cI 6 i0g1), (xI i0b2 cI 6 i0g2), (xI i0b3 cI 6 i0g3), (xI i0b4 cI 6 i0g4), (xI i0b5 cI 6 i0g5)]) hP hD [1, 2, 3, 4, 5, 6, 9, 10, 11, 12, 13, 14] [0, 7, 8, 15, 16, 17, 18, 19, 20] rfl rfl (by decide +kernel) (by decide +kernel) hk1 hc_6.2.2 hP1 hD1
          generalize H1 = H at hP hS ⊢
          have hP : va_P (dC, dI) vwCl [(xo_7_rrrrrrrrrii x ro ta no ac im tr pl cs ak xf xg), (xJ im cL 2 fi), (xo_0_rii ac be (nI q) (nI az)), (xo_3_iiiiiiiirrrrr i1 i1v0 i1v1 i1v2 i1v3 (nI i1h) i1v5 (nI i1w) (nI i1k) i1b1 i1b2 i1b3 i1b4 i1b5), (xI i1b1 cI 6 i1g1), (xI i1b2 cI 6 i1g2), (xI i1b3 cI 6 i1g3), (xI i1b4 cI 6 i1g4), (xI i1b5 cI 6 i1g5), (xo_3_iiiiiiiirrrrr no i0v0 i0v1 i0v2 i0v3 (nI i0h) i0v5 (nI i0w) (nI i0k) nb1 nb2 nb3 nb4 nb5), (xI nb1 cI 6 f1n_6), (xI nb2 cI 6 f2n_6), (xI nb3 cI 6 f3n_6), (xI nb4 cI 6 f4n_6), (xI nb5 cI 6 f5n_6), (xo_3_iiiiiiiirrrrr i0 i0v0 i0v1 i0v2 i0v3 (nI i0h) i0v5 (nI i0w) (nI i0k) i0b1 i0b2 i0b3 i0b4 i0b5), (xI i0b1 cI 6 i0g1), (xI i0b2 cI 6 i0g2), (xI i0b3 cI 6 i0g3), (xI i0b4 cI 6 i0g4), (xI i0b5 cI 6 i0g5)] H := hP
          have hD := dto hP hD
          refine lv_aload_n hx hb dX7_restore_44 rfl (lv_at hl 0 rfl) ?_
          refine va_get (D := (dC, dI)) (ci := 7) (v := .ref ac) (C := RX7) (T := TX7) (N := 11) hx hb hts i_X7_restore_X7 hown hK hP 0 rfl rfl 3 (by decide) (hts _ mx_X7_restore_5) (fun _ h9 => h9) rfl dX7_restore_45 ?_
          have hc_7 := cutW (wc := [(xo_0_rii ac be (nI q) (nI az))]) hP hD hS hA [2] (by decide +kernel) rfl
          refine va_callv (va_runV (As := []) (rest := []) ⟨hx, hb, hml, hown, hts⟩ (r_X0_forget l dC dI cI cZ cL cJ H.size ac be q az ) (cwV 0 hts gX7_restore_X0_forget rfl rfl rfl (by decide +kernel) ⟨Nat.le_of_ble_eq_true rfl, Nat.le_of_ble_eq_true rfl⟩) (pvW 0 2 hK hP rfl rfl hc_7) rfl rfl hl.1 rfl (lv_room (Nat.le_of_ble_eq_true rfl)) dX7_restore_48 ⟨Nat.le_of_ble_eq_true rfl, Nat.le_of_ble_eq_true rfl⟩) hS (fun q _ h => hc_7.2.2 q h) hc_7.2.2 (fun u_7 t_7 H1 locs ht hvm h_7 hB hz1 hk1 hS => ?_)
          refine xl_0_2 hB (fun hP1 hD1 => ?_)
          clear hB
          rw [ht] at hP1
          obtain ⟨hP, hD⟩ := va_join (wr := [(xo_7_rrrrrrrrrii x ro ta no ac im tr pl cs ak xf xg), (xJ im cL 2 fi), (xo_3_iiiiiiiirrrrr i1 i1v0 i1v1 i1v2 i1v3 (nI i1h) i1v5 (nI i1w) (nI i1k) i1b1 i1b2 i1b3 i1b4 i1b5), (xI i1b1 cI 6 i1g1), (xI i1b2 cI 6 i1g2), (xI i1b3 cI 6 i1g3), (xI i1b4 cI 6 i1g4), (xI i1b5 cI 6 i1g5), (xo_3_iiiiiiiirrrrr no i0v0 i0v1 i0v2 i0v3 (nI i0h) i0v5 (nI i0w) (nI i0k) nb1 nb2 nb3 nb4 nb5), (xI nb1 cI 6 f1n_6), (xI nb2 cI 6 f2n_6), (xI nb3 cI 6 f3n_6), (xI nb4 cI 6 f4n_6), (xI nb5 cI 6 f5n_6), (xo_3_iiiiiiiirrrrr i0 i0v0 i0v1 i0v2 i0v3 (nI i0h) i0v5 (nI i0w) (nI i0k) i0b1 i0b2 i0b3 i0b4 i0b5), (xI i0b1 cI 6 i0g1), (xI i0b2 cI 6 i0g2), (xI i0b3 cI 6 i0g3), (xI i0b4 cI 6 i0g4), (xI i0b5 cI 6 i0g5)]) (w1 := [(xo_0_rii ac be (nI q) (nI 0))]) hP hD [2] [0, 1, 3, 4, 5, 6, 7, 8, 9, 10, 11, 12, 13, 14, 15, 16, 17, 18, 19, 20] rfl rfl (by decide +kernel) (by decide +kernel) hk1 hc_7.2.2 hP1 hD1
          generalize H1 = H at hP hS ⊢
          have hP : va_P (dC, dI) vwCl [(xo_7_rrrrrrrrrii x ro ta no ac im tr pl cs ak xf xg), (xJ im cL 2 fi), (xo_3_iiiiiiiirrrrr i1 i1v0 i1v1 i1v2 i1v3 (nI i1h) i1v5 (nI i1w) (nI i1k) i1b1 i1b2 i1b3 i1b4 i1b5), (xI i1b1 cI 6 i1g1), (xI i1b2 cI 6 i1g2), (xI i1b3 cI 6 i1g3), (xI i1b4 cI 6 i1g4), (xI i1b5 cI 6 i1g5), (xo_3_iiiiiiiirrrrr no i0v0 i0v1 i0v2 i0v3 (nI i0h) i0v5 (nI i0w) (nI i0k) nb1 nb2 nb3 nb4 nb5), (xI nb1 cI 6 f1n_6), (xI nb2 cI 6 f2n_6), (xI nb3 cI 6 f3n_6), (xI nb4 cI 6 f4n_6), (xI nb5 cI 6 f5n_6), (xo_3_iiiiiiiirrrrr i0 i0v0 i0v1 i0v2 i0v3 (nI i0h) i0v5 (nI i0w) (nI i0k) i0b1 i0b2 i0b3 i0b4 i0b5), (xI i0b1 cI 6 i0g1), (xI i0b2 cI 6 i0g2), (xI i0b3 cI 6 i0g3), (xI i0b4 cI 6 i0g4), (xI i0b5 cI 6 i0g5), (xo_0_rii ac be (nI q) (nI 0))] H := hP
          have hD := dto hP hD
          refine lv_iconst (v := 1) hx hb dX7_restore_51 (by decide) ?_
          have hX9 := cut2 (wc := [(xo_7_rrrrrrrrrii x ro ta no ac im tr pl cs ak xf xg), (xo_3_iiiiiiiirrrrr no i0v0 i0v1 i0v2 i0v3 (nI i0h) i0v5 (nI i0w) (nI i0k) nb1 nb2 nb3 nb4 nb5), (xI nb1 cI 6 f1n_6), (xI nb2 cI 6 f2n_6), (xI nb3 cI 6 f3n_6), (xI nb4 cI 6 f4n_6), (xI nb5 cI 6 f5n_6), (xJ im cL 2 fi), (xo_0_rii ac be (nI q) (nI 0)), (xo_3_iiiiiiiirrrrr i0 i0v0 i0v1 i0v2 i0v3 (nI i0h) i0v5 (nI i0w) (nI i0k) i0b1 i0b2 i0b3 i0b4 i0b5), (xI i0b1 cI 6 i0g1), (xI i0b2 cI 6 i0g2), (xI i0b3 cI 6 i0g3), (xI i0b4 cI 6 i0g4), (xI i0b5 cI 6 i0g5), (xo_3_iiiiiiiirrrrr i1 i1v0 i1v1 i1v2 i1v3 (nI i1h) i1v5 (nI i1w) (nI i1k) i1b1 i1b2 i1b3 i1b4 i1b5), (xI i1b1 cI 6 i1g1), (xI i1b2 cI 6 i1g2), (xI i1b3 cI 6 i1g3), (xI i1b4 cI 6 i1g4), (xI i1b5 cI 6 i1g5)]) hP hD [0, 8, 9, 10, 11, 12, 13, 1, 20, 14, 15, 16, 17, 18, 19, 2, 3, 4, 5, 6, 7] (by decide +kernel) rfl
          exact W.iret (v := 1) hx hb hr (fun t ht hW => ⟨⟨1, (), rfl, (lf_X7_restore_21 nhb nwb nkb hi0 hi1 hg0 hg1 hg2 hg3 hg4 hg5 haz hL0 hL1 c_1 c_2 f_3_1_0 hF_6_0 hF_6_1 hF_6_2 hF_6_3 hF_6_4), ⟨i0v0, i0v1, i0v2, i0v3, i0v5, f1n_6, f2n_6, f3n_6, f4n_6, f5n_6, i0h, i0w, i0k, 0, va_Ht ht hX9.1, hX9.2, (lf_X7_restore_15 nhb nwb nkb hi0 hi1 hg0 hg1 hg2 hg3 hg4 hg5 haz hL0 hL1 c_1 c_2 f_3_1_0 hF_6_0 hF_6_1 hF_6_2 hF_6_3 hF_6_4), (lf_X7_restore_16 nhb nwb nkb hi0 hi1 hg0 hg1 hg2 hg3 hg4 hg5 haz hL0 hL1 c_1 c_2 f_3_1_0 hF_6_0 hF_6_1 hF_6_2 hF_6_3 hF_6_4), (lf_X7_restore_17 nhb nwb nkb hi0 hi1 hg0 hg1 hg2 hg3 hg4 hg5 haz hL0 hL1 c_1 c_2 f_3_1_0 hF_6_0 hF_6_1 hF_6_2 hF_6_3 hF_6_4), (lf_X7_restore_18 nhb nwb nkb hi0 hi1 hg0 hg1 hg2 hg3 hg4 hg5 haz hL0 hL1 c_1 c_2 f_3_1_0 hF_6_0 hF_6_1 hF_6_2 hF_6_3 hF_6_4), (lf_X7_restore_19 nhb nwb nkb hi0 hi1 hg0 hg1 hg2 hg3 hg4 hg5 haz hL0 hL1 c_1 c_2 f_3_1_0 hF_6_0 hF_6_1 hF_6_2 hF_6_3 hF_6_4), (lf_X7_restore_20 nhb nwb nkb hi0 hi1 hg0 hg1 hg2 hg3 hg4 hg5 haz hL0 hL1 c_1 c_2 f_3_1_0 hF_6_0 hF_6_1 hF_6_2 hF_6_3 hF_6_4)⟩⟩, hS.F ht⟩) hS.2.2 dX7_restore_52
      · skip
        refine lv_aload_n hx hb dX7_restore_16 rfl (lv_at hl 0 rfl) ?_
        refine va_get (D := (dC, dI)) (ci := 7) (v := .ref im) (C := RX7) (T := TX7) (N := 11) hx hb hts i_X7_restore_X7 hown hK hP 0 rfl rfl 4 (by decide) (hts _ mx_X7_restore_1) (fun _ h9 => h9) rfl dX7_restore_17 ?_
        refine lv_iload_n hx hb dX7_restore_20 rfl (lv_at hl 1 rfl) ?_
        refine va_aldq hx hb hK hP 7 2 rfl rfl (by unfold vp_in; decide) dX7_restore_21 ?_
        refine W.eq (g2 := F0 m 22 ls (.ref i1 :: [])) (by show F0 m 22 ls (va_rf (fi (1 : Int32).toNatClampNeg) :: _) = _; rw [show (1 : Int32).toNatClampNeg = 1 from rfl, hi1]; rfl) ?_
        have hPc_8 := hP.sub (ws' := [(xo_3_iiiiiiiirrrrr i1 i1v0 i1v1 i1v2 i1v3 (nI i1h) i1v5 (nI i1w) (nI i1k) i1b1 i1b2 i1b3 i1b4 i1b5), (xI i1b1 cI 6 i1g1), (xI i1b2 cI 6 i1g2), (xI i1b3 cI 6 i1g3), (xI i1b4 cI 6 i1g4), (xI i1b5 cI 6 i1g5)]) [15, 16, 17, 18, 19, 20] rfl
        refine vp_callSi (W.runV (As := []) (rest := []) ⟨hx, hb, hml, hown, hts⟩ (r_X3_isTold l dC dI cI cZ cL cJ i1 i1v0 i1v1 i1v2 i1v3 i1v5 i1h i1w i1k i1b1 i1b2 i1b3 i1b4 i1b5 i1g1 i1g2 i1g3 i1g4 i1g5 (by omega) (by omega) (by omega)) (cwV 0 hts gX7_restore_X3_isTold rfl rfl rfl (by decide +kernel) ⟨Nat.le_of_ble_eq_true rfl, Nat.le_of_ble_eq_true rfl⟩) (pvP 3 15 hK hP rfl rfl hPc_8) rfl rfl hl.1 rfl (lv_room (Nat.le_of_ble_eq_true rfl)) dX7_restore_22 ⟨Nat.le_of_ble_eq_true rfl, Nat.le_of_ble_eq_true rfl⟩) (fun r_8 h_8 => ?_)
        rcases h_8 with ⟨h_8, f_8_0_0⟩ | ⟨h_8, f_8_1_0⟩
        · subst h_8
          refine lv_if_ne (tgt := 31) hx hb dX7_restore_25 (by decide) (fun c_ => absurd (by decide) c_) (fun _ => ?_)
          refine lv_ldc (own := RX7) (v := (-1000002)) hx hb hown (hts _ mx_X7_restore_3) dX7_restore_28 ?_
          have hX9 := cut2 (wc := [(xo_7_rrrrrrrrrii x ro ta no ac im tr pl cs ak xf xg), (xo_3_iiiiiiiirrrrr no nv0 nv1 nv2 nv3 (nI nhh) nv5 (nI nww) (nI nkk) nb1 nb2 nb3 nb4 nb5), (xI nb1 cI 6 ng1), (xI nb2 cI 6 ng2), (xI nb3 cI 6 ng3), (xI nb4 cI 6 ng4), (xI nb5 cI 6 ng5), (xJ im cL 2 fi), (xo_0_rii ac be (nI q) (nI az)), (xo_3_iiiiiiiirrrrr i0 i0v0 i0v1 i0v2 i0v3 (nI i0h) i0v5 (nI i0w) (nI i0k) i0b1 i0b2 i0b3 i0b4 i0b5), (xI i0b1 cI 6 i0g1), (xI i0b2 cI 6 i0g2), (xI i0b3 cI 6 i0g3), (xI i0b4 cI 6 i0g4), (xI i0b5 cI 6 i0g5), (xo_3_iiiiiiiirrrrr i1 i1v0 i1v1 i1v2 i1v3 (nI i1h) i1v5 (nI i1w) (nI i1k) i1b1 i1b2 i1b3 i1b4 i1b5), (xI i1b1 cI 6 i1g1), (xI i1b2 cI 6 i1g2), (xI i1b3 cI 6 i1g3), (xI i1b4 cI 6 i1g4), (xI i1b5 cI 6 i1g5)]) hP hD [0, 1, 2, 3, 4, 5, 6, 7, 8, 9, 10, 11, 12, 13, 14, 15, 16, 17, 18, 19, 20] (by decide +kernel) rfl
          exact W.iret (v := (-1000002)) hx hb hr (fun t ht hW => ⟨⟨(-1000002), (), rfl, (lf_X7_restore_28 nhb nwb nkb hi0 hi1 hg0 hg1 hg2 hg3 hg4 hg5 haz hL0 hL1 c_1 c_2 f_8_0_0), ⟨nv0, nv1, nv2, nv3, nv5, ng1, ng2, ng3, ng4, ng5, nhh, nww, nkk, az, va_Ht ht hX9.1, hX9.2, (lf_X7_restore_22 nhb nwb nkb hi0 hi1 hg0 hg1 hg2 hg3 hg4 hg5 haz hL0 hL1 c_1 c_2 f_8_0_0), (lf_X7_restore_23 nhb nwb nkb hi0 hi1 hg0 hg1 hg2 hg3 hg4 hg5 haz hL0 hL1 c_1 c_2 f_8_0_0), (lf_X7_restore_24 nhb nwb nkb hi0 hi1 hg0 hg1 hg2 hg3 hg4 hg5 haz hL0 hL1 c_1 c_2 f_8_0_0), (lf_X7_restore_25 nhb nwb nkb hi0 hi1 hg0 hg1 hg2 hg3 hg4 hg5 haz hL0 hL1 c_1 c_2 f_8_0_0), (lf_X7_restore_26 nhb nwb nkb hi0 hi1 hg0 hg1 hg2 hg3 hg4 hg5 haz hL0 hL1 c_1 c_2 f_8_0_0), (lf_X7_restore_27 nhb nwb nkb hi0 hi1 hg0 hg1 hg2 hg3 hg4 hg5 haz hL0 hL1 c_1 c_2 f_8_0_0)⟩⟩, hS.F ht⟩) hS.2.2 dX7_restore_30
        · subst h_8
          refine lv_if_ne (tgt := 31) hx hb dX7_restore_25 (by decide) (fun _ => ?_) (fun c_ => absurd c_ (by decide))
          refine lv_aload_n hx hb dX7_restore_31 rfl (lv_at hl 0 rfl) ?_
          refine va_get (D := (dC, dI)) (ci := 7) (v := .ref no) (C := RX7) (T := TX7) (N := 11) hx hb hts i_X7_restore_X7 hown hK hP 0 rfl rfl 2 (by decide) (hts _ mx_X7_restore_4) (fun _ h9 => h9) rfl dX7_restore_32 ?_
          refine lv_aload_n hx hb dX7_restore_35 rfl (lv_at hl 0 rfl) ?_
          refine va_get (D := (dC, dI)) (ci := 7) (v := .ref im) (C := RX7) (T := TX7) (N := 11) hx hb hts i_X7_restore_X7 hown hK hP 0 rfl rfl 4 (by decide) (hts _ mx_X7_restore_1) (fun _ h9 => h9) rfl dX7_restore_36 ?_
          refine lv_iload_n hx hb dX7_restore_39 rfl (lv_at hl 1 rfl) ?_
          refine va_aldq hx hb hK hP 7 2 rfl rfl (by unfold vp_in; decide) dX7_restore_40 ?_
          refine W.eq (g2 := F0 m 41 ls (.ref i1 :: [.ref no])) (by show F0 m 41 ls (va_rf (fi (1 : Int32).toNatClampNeg) :: _) = _; rw [show (1 : Int32).toNatClampNeg = 1 from rfl, hi1]; rfl) ?_
          have hc_11 := cutW (wc := [(xo_3_iiiiiiiirrrrr no nv0 nv1 nv2 nv3 (nI nhh) nv5 (nI nww) (nI nkk) nb1 nb2 nb3 nb4 nb5), (xI nb1 cI 6 ng1), (xI nb2 cI 6 ng2), (xI nb3 cI 6 ng3), (xI nb4 cI 6 ng4), (xI nb5 cI 6 ng5), (xo_3_iiiiiiiirrrrr i1 i1v0 i1v1 i1v2 i1v3 (nI i1h) i1v5 (nI i1w) (nI i1k) i1b1 i1b2 i1b3 i1b4 i1b5), (xI i1b1 cI 6 i1g1), (xI i1b2 cI 6 i1g2), (xI i1b3 cI 6 i1g3), (xI i1b4 cI 6 i1g4), (xI i1b5 cI 6 i1g5)]) hP hD hS hA [1, 2, 3, 4, 5, 6, 15, 16, 17, 18, 19, 20] (by decide +kernel) rfl
          refine va_callv (va_runV (As := [.ref i1]) (rest := []) ⟨hx, hb, hml, hown, hts⟩ (r_X3_becomeLike l dC dI cI cZ cL cJ s.heap.size no nv0 nv1 nv2 nv3 (nI nhh) nv5 (nI nww) (nI nkk) nb1 nb2 nb3 nb4 nb5 ng1 ng2 ng3 ng4 ng5 i1 i1v0 i1v1 i1v2 i1v3 (nI i1h) i1v5 (nI i1w) (nI i1k) i1b1 i1b2 i1b3 i1b4 i1b5 i1g1 i1g2 i1g3 i1g4 i1g5 ) (cwV 1 hts gX7_restore_X3_becomeLike rfl rfl rfl (by decide +kernel) ⟨Nat.le_of_ble_eq_true rfl, Nat.le_of_ble_eq_true rfl⟩) (pvW 3 1 hK hP rfl rfl hc_11) rfl rfl hl.1 rfl (lv_room (Nat.le_of_ble_eq_true rfl)) dX7_restore_41 ⟨Nat.le_of_ble_eq_true rfl, Nat.le_of_ble_eq_true rfl⟩) hS (fun q _ h => hc_11.2.2 q h) hc_11.2.2 (fun u_11 t_11 H1 locs ht hvm h_11 hB hz1 hk1 hS => ?_)
          refine xl_5_7 hB (fun f1n_11 f2n_11 f3n_11 f4n_11 f5n_11 hP1 hD1 hF_11_0 hF_11_1 hF_11_2 hF_11_3 hF_11_4 => ?_)
          clear hB
          rw [ht] at hP1
          obtain ⟨hP, hD⟩ := va_join (wr := [(xo_7_rrrrrrrrrii x ro ta no ac im tr pl cs ak xf xg), (xJ im cL 2 fi), (xo_0_rii ac be (nI q) (nI az)), (xo_3_iiiiiiiirrrrr i0 i0v0 i0v1 i0v2 i0v3 (nI i0h) i0v5 (nI i0w) (nI i0k) i0b1 i0b2 i0b3 i0b4 i0b5), (xI i0b1 cI 6 i0g1), (xI i0b2 cI 6 i0g2), (xI i0b3 cI 6 i0g3), (xI i0b4 cI 6 i0g4), (xI i0b5 cI 6 i0g5)]) (w1 := [(xo_3_iiiiiiiirrrrr no i1v0 i1v1 i1v2 i1v3 (nI i1h) i1v5 (nI i1w) (nI i1k) nb1 nb2 nb3 nb4 nb5), (xI nb1 cI 6 f1n_11), (xI nb2 cI 6 f2n_11), (xI nb3 cI 6 f3n_11), (xI nb4 cI 6 f4n_11), (xI nb5 cI 6 f5n_11), (xo_3_iiiiiiiirrrrr i1 i1v0 i1v1 i1v2 i1v3 (nI i1h) i1v5 (nI i1w) (nI i1k) i1b1 i1b2 i1b3 i1b4 i1b5), (xI i1b1 cI 6 i1g1), (xI i1b2 cI 6 i1g2), (xI i1b3 cI 6 i1g3), (xI i1b4 cI 6 i1g4), (xI i1b5 cI 6 i1g5)]) hP hD [1, 2, 3, 4, 5, 6, 15, 16, 17, 18, 19, 20] [0, 7, 8, 9, 10, 11, 12, 13, 14] rfl rfl (by decide +kernel) (by decide +kernel) hk1 hc_11.2.2 hP1 hD1
          generalize H1 = H at hP hS ⊢
          have hP : va_P (dC, dI) vwCl [(xo_7_rrrrrrrrrii x ro ta no ac im tr pl cs ak xf xg), (xJ im cL 2 fi), (xo_0_rii ac be (nI q) (nI az)), (xo_3_iiiiiiiirrrrr i0 i0v0 i0v1 i0v2 i0v3 (nI i0h) i0v5 (nI i0w) (nI i0k) i0b1 i0b2 i0b3 i0b4 i0b5), (xI i0b1 cI 6 i0g1), (xI i0b2 cI 6 i0g2), (xI i0b3 cI 6 i0g3), (xI i0b4 cI 6 i0g4), (xI i0b5 cI 6 i0g5), (xo_3_iiiiiiiirrrrr no i1v0 i1v1 i1v2 i1v3 (nI i1h) i1v5 (nI i1w) (nI i1k) nb1 nb2 nb3 nb4 nb5), (xI nb1 cI 6 f1n_11), (xI nb2 cI 6 f2n_11), (xI nb3 cI 6 f3n_11), (xI nb4 cI 6 f4n_11), (xI nb5 cI 6 f5n_11), (xo_3_iiiiiiiirrrrr i1 i1v0 i1v1 i1v2 i1v3 (nI i1h) i1v5 (nI i1w) (nI i1k) i1b1 i1b2 i1b3 i1b4 i1b5), (xI i1b1 cI 6 i1g1), (xI i1b2 cI 6 i1g2), (xI i1b3 cI 6 i1g3), (xI i1b4 cI 6 i1g4), (xI i1b5 cI 6 i1g5)] H := hP
          have hD := dto hP hD
          refine lv_aload_n hx hb dX7_restore_44 rfl (lv_at hl 0 rfl) ?_
          refine va_get (D := (dC, dI)) (ci := 7) (v := .ref ac) (C := RX7) (T := TX7) (N := 11) hx hb hts i_X7_restore_X7 hown hK hP 0 rfl rfl 3 (by decide) (hts _ mx_X7_restore_5) (fun _ h9 => h9) rfl dX7_restore_45 ?_
          have hc_12 := cutW (wc := [(xo_0_rii ac be (nI q) (nI az))]) hP hD hS hA [2] (by decide +kernel) rfl
          refine va_callv (va_runV (As := []) (rest := []) ⟨hx, hb, hml, hown, hts⟩ (r_X0_forget l dC dI cI cZ cL cJ H.size ac be q az ) (cwV 0 hts gX7_restore_X0_forget rfl rfl rfl (by decide +kernel) ⟨Nat.le_of_ble_eq_true rfl, Nat.le_of_ble_eq_true rfl⟩) (pvW 0 2 hK hP rfl rfl hc_12) rfl rfl hl.1 rfl (lv_room (Nat.le_of_ble_eq_true rfl)) dX7_restore_48 ⟨Nat.le_of_ble_eq_true rfl, Nat.le_of_ble_eq_true rfl⟩) hS (fun q _ h => hc_12.2.2 q h) hc_12.2.2 (fun u_12 t_12 H1 locs ht hvm h_12 hB hz1 hk1 hS => ?_)
          refine xl_0_2 hB (fun hP1 hD1 => ?_)
          clear hB
          rw [ht] at hP1
          obtain ⟨hP, hD⟩ := va_join (wr := [(xo_7_rrrrrrrrrii x ro ta no ac im tr pl cs ak xf xg), (xJ im cL 2 fi), (xo_3_iiiiiiiirrrrr i0 i0v0 i0v1 i0v2 i0v3 (nI i0h) i0v5 (nI i0w) (nI i0k) i0b1 i0b2 i0b3 i0b4 i0b5), (xI i0b1 cI 6 i0g1), (xI i0b2 cI 6 i0g2), (xI i0b3 cI 6 i0g3), (xI i0b4 cI 6 i0g4), (xI i0b5 cI 6 i0g5), (xo_3_iiiiiiiirrrrr no i1v0 i1v1 i1v2 i1v3 (nI i1h) i1v5 (nI i1w) (nI i1k) nb1 nb2 nb3 nb4 nb5), (xI nb1 cI 6 f1n_11), (xI nb2 cI 6 f2n_11), (xI nb3 cI 6 f3n_11), (xI nb4 cI 6 f4n_11), (xI nb5 cI 6 f5n_11), (xo_3_iiiiiiiirrrrr i1 i1v0 i1v1 i1v2 i1v3 (nI i1h) i1v5 (nI i1w) (nI i1k) i1b1 i1b2 i1b3 i1b4 i1b5), (xI i1b1 cI 6 i1g1), (xI i1b2 cI 6 i1g2), (xI i1b3 cI 6 i1g3), (xI i1b4 cI 6 i1g4), (xI i1b5 cI 6 i1g5)]) (w1 := [(xo_0_rii ac be (nI q) (nI 0))]) hP hD [2] [0, 1, 3, 4, 5, 6, 7, 8, 9, 10, 11, 12, 13, 14, 15, 16, 17, 18, 19, 20] rfl rfl (by decide +kernel) (by decide +kernel) hk1 hc_12.2.2 hP1 hD1
          generalize H1 = H at hP hS ⊢
          have hP : va_P (dC, dI) vwCl [(xo_7_rrrrrrrrrii x ro ta no ac im tr pl cs ak xf xg), (xJ im cL 2 fi), (xo_3_iiiiiiiirrrrr i0 i0v0 i0v1 i0v2 i0v3 (nI i0h) i0v5 (nI i0w) (nI i0k) i0b1 i0b2 i0b3 i0b4 i0b5), (xI i0b1 cI 6 i0g1), (xI i0b2 cI 6 i0g2), (xI i0b3 cI 6 i0g3), (xI i0b4 cI 6 i0g4), (xI i0b5 cI 6 i0g5), (xo_3_iiiiiiiirrrrr no i1v0 i1v1 i1v2 i1v3 (nI i1h) i1v5 (nI i1w) (nI i1k) nb1 nb2 nb3 nb4 nb5), (xI nb1 cI 6 f1n_11), (xI nb2 cI 6 f2n_11), (xI nb3 cI 6 f3n_11), (xI nb4 cI 6 f4n_11), (xI nb5 cI 6 f5n_11), (xo_3_iiiiiiiirrrrr i1 i1v0 i1v1 i1v2 i1v3 (nI i1h) i1v5 (nI i1w) (nI i1k) i1b1 i1b2 i1b3 i1b4 i1b5), (xI i1b1 cI 6 i1g1), (xI i1b2 cI 6 i1g2), (xI i1b3 cI 6 i1g3), (xI i1b4 cI 6 i1g4), (xI i1b5 cI 6 i1g5), (xo_0_rii ac be (nI q) (nI 0))] H := hP
          have hD := dto hP hD
          refine lv_iconst (v := 1) hx hb dX7_restore_51 (by decide) ?_
          have hX9 := cut2 (wc := [(xo_7_rrrrrrrrrii x ro ta no ac im tr pl cs ak xf xg), (xo_3_iiiiiiiirrrrr no i1v0 i1v1 i1v2 i1v3 (nI i1h) i1v5 (nI i1w) (nI i1k) nb1 nb2 nb3 nb4 nb5), (xI nb1 cI 6 f1n_11), (xI nb2 cI 6 f2n_11), (xI nb3 cI 6 f3n_11), (xI nb4 cI 6 f4n_11), (xI nb5 cI 6 f5n_11), (xJ im cL 2 fi), (xo_0_rii ac be (nI q) (nI 0)), (xo_3_iiiiiiiirrrrr i0 i0v0 i0v1 i0v2 i0v3 (nI i0h) i0v5 (nI i0w) (nI i0k) i0b1 i0b2 i0b3 i0b4 i0b5), (xI i0b1 cI 6 i0g1), (xI i0b2 cI 6 i0g2), (xI i0b3 cI 6 i0g3), (xI i0b4 cI 6 i0g4), (xI i0b5 cI 6 i0g5), (xo_3_iiiiiiiirrrrr i1 i1v0 i1v1 i1v2 i1v3 (nI i1h) i1v5 (nI i1w) (nI i1k) i1b1 i1b2 i1b3 i1b4 i1b5), (xI i1b1 cI 6 i1g1), (xI i1b2 cI 6 i1g2), (xI i1b3 cI 6 i1g3), (xI i1b4 cI 6 i1g4), (xI i1b5 cI 6 i1g5)]) hP hD [0, 8, 9, 10, 11, 12, 13, 1, 20, 2, 3, 4, 5, 6, 7, 14, 15, 16, 17, 18, 19] (by decide +kernel) rfl
          exact W.iret (v := 1) hx hb hr (fun t ht hW => ⟨⟨1, (), rfl, (lf_X7_restore_35 nhb nwb nkb hi0 hi1 hg0 hg1 hg2 hg3 hg4 hg5 haz hL0 hL1 c_1 c_2 f_8_1_0 hF_11_0 hF_11_1 hF_11_2 hF_11_3 hF_11_4), ⟨i1v0, i1v1, i1v2, i1v3, i1v5, f1n_11, f2n_11, f3n_11, f4n_11, f5n_11, i1h, i1w, i1k, 0, va_Ht ht hX9.1, hX9.2, (lf_X7_restore_29 nhb nwb nkb hi0 hi1 hg0 hg1 hg2 hg3 hg4 hg5 haz hL0 hL1 c_1 c_2 f_8_1_0 hF_11_0 hF_11_1 hF_11_2 hF_11_3 hF_11_4), (lf_X7_restore_30 nhb nwb nkb hi0 hi1 hg0 hg1 hg2 hg3 hg4 hg5 haz hL0 hL1 c_1 c_2 f_8_1_0 hF_11_0 hF_11_1 hF_11_2 hF_11_3 hF_11_4), (lf_X7_restore_31 nhb nwb nkb hi0 hi1 hg0 hg1 hg2 hg3 hg4 hg5 haz hL0 hL1 c_1 c_2 f_8_1_0 hF_11_0 hF_11_1 hF_11_2 hF_11_3 hF_11_4), (lf_X7_restore_32 nhb nwb nkb hi0 hi1 hg0 hg1 hg2 hg3 hg4 hg5 haz hL0 hL1 c_1 c_2 f_8_1_0 hF_11_0 hF_11_1 hF_11_2 hF_11_3 hF_11_4), (lf_X7_restore_33 nhb nwb nkb hi0 hi1 hg0 hg1 hg2 hg3 hg4 hg5 haz hL0 hL1 c_1 c_2 f_8_1_0 hF_11_0 hF_11_1 hF_11_2 hF_11_3 hF_11_4), (lf_X7_restore_34 nhb nwb nkb hi0 hi1 hg0 hg1 hg2 hg3 hg4 hg5 haz hL0 hL1 c_1 c_2 f_8_1_0 hF_11_0 hF_11_1 hF_11_2 hF_11_3 hF_11_4)⟩⟩, hS.F ht⟩) hS.2.2 dX7_restore_52
    · skip
      refine lv_ldc (own := RX7) (v := (-1000001)) hx hb hown (hts _ mx_X7_restore_2) dX7_restore_13 ?_
      have hX9 := cut2 (wc := [(xo_7_rrrrrrrrrii x ro ta no ac im tr pl cs ak xf xg), (xo_3_iiiiiiiirrrrr no nv0 nv1 nv2 nv3 (nI nhh) nv5 (nI nww) (nI nkk) nb1 nb2 nb3 nb4 nb5), (xI nb1 cI 6 ng1), (xI nb2 cI 6 ng2), (xI nb3 cI 6 ng3), (xI nb4 cI 6 ng4), (xI nb5 cI 6 ng5), (xJ im cL 2 fi), (xo_0_rii ac be (nI q) (nI az)), (xo_3_iiiiiiiirrrrr i0 i0v0 i0v1 i0v2 i0v3 (nI i0h) i0v5 (nI i0w) (nI i0k) i0b1 i0b2 i0b3 i0b4 i0b5), (xI i0b1 cI 6 i0g1), (xI i0b2 cI 6 i0g2), (xI i0b3 cI 6 i0g3), (xI i0b4 cI 6 i0g4), (xI i0b5 cI 6 i0g5), (xo_3_iiiiiiiirrrrr i1 i1v0 i1v1 i1v2 i1v3 (nI i1h) i1v5 (nI i1w) (nI i1k) i1b1 i1b2 i1b3 i1b4 i1b5), (xI i1b1 cI 6 i1g1), (xI i1b2 cI 6 i1g2), (xI i1b3 cI 6 i1g3), (xI i1b4 cI 6 i1g4), (xI i1b5 cI 6 i1g5)]) hP hD [0, 1, 2, 3, 4, 5, 6, 7, 8, 9, 10, 11, 12, 13, 14, 15, 16, 17, 18, 19, 20] (by decide +kernel) rfl
      exact W.iret (v := (-1000001)) hx hb hr (fun t ht hW => ⟨⟨(-1000001), (), rfl, (lf_X7_restore_42 nhb nwb nkb hi0 hi1 hg0 hg1 hg2 hg3 hg4 hg5 haz hL0 hL1 c_1 c_2), ⟨nv0, nv1, nv2, nv3, nv5, ng1, ng2, ng3, ng4, ng5, nhh, nww, nkk, az, va_Ht ht hX9.1, hX9.2, (lf_X7_restore_36 nhb nwb nkb hi0 hi1 hg0 hg1 hg2 hg3 hg4 hg5 haz hL0 hL1 c_1 c_2), (lf_X7_restore_37 nhb nwb nkb hi0 hi1 hg0 hg1 hg2 hg3 hg4 hg5 haz hL0 hL1 c_1 c_2), (lf_X7_restore_38 nhb nwb nkb hi0 hi1 hg0 hg1 hg2 hg3 hg4 hg5 haz hL0 hL1 c_1 c_2), (lf_X7_restore_39 nhb nwb nkb hi0 hi1 hg0 hg1 hg2 hg3 hg4 hg5 haz hL0 hL1 c_1 c_2), (lf_X7_restore_40 nhb nwb nkb hi0 hi1 hg0 hg1 hg2 hg3 hg4 hg5 haz hL0 hL1 c_1 c_2), (lf_X7_restore_41 nhb nwb nkb hi0 hi1 hg0 hg1 hg2 hg3 hg4 hg5 haz hL0 hL1 c_1 c_2)⟩⟩, hS.F ht⟩) hS.2.2 dX7_restore_15
-- 36.tpa_d
/-! the two ways of reading are one -/
theorem bAt_nI {f : Nat → Int32} {z p : Nat} (hz : z ≤ 120) (hp : p ≤ 1000) : bAt f z (nI p) = if p < z then f p else -1 := by
  unfold bAt
  by_cases h : p < z
  · rw [if_neg (by rintro (q | q); exact nI_pos (by omega) q; exact nI_ge h (by omega) q), if_pos h, nI_clamp (by omega)]
  · rw [if_pos (Or.inr (nI_le (by omega) (by omega))), if_neg h]
noncomputable def figN (f : Nat → Int32) (z : Nat) : Nat → Nat → Nat
  | 0, _ => 0
  | n + 1, p => if p < z ∧ isFig (f p) then figN f z n (p + 1) + 1 else 0
theorem fig_if {f : Nat → Int32} {z p : Nat} : isFig (if p < z then f p else -1) ↔ p < z ∧ isFig (f p) := by
  by_cases h : p < z
  · rw [if_pos h]
    exact ⟨fun q => ⟨h, q⟩, fun q => q.2⟩
  · rw [if_neg h]
    exact ⟨fun q => absurd (show (-1 : Int32) < 48 by decide) q.1, fun q => absurd q.1 h⟩
theorem figX_N {f : Nat → Int32} {z : Nat} (hz : z ≤ 120) : ∀ n i p : Nat, p + i + n ≤ 1000 → figX f z (nI p) n i = figN f z n (p + i)
  | 0, _, _, _ => rfl
  | n + 1, i, p, h => by
    have ih := figX_N (f := f) hz n (i + 1) p (by omega)
    show (if isFig (bAt f z (nI p + nI i)) then figX f z (nI p) n (i + 1) + 1 else 0) = (if p + i < z ∧ isFig (f (p + i)) then figN f z n (p + i + 1) + 1 else 0)
    rw [nI_add, bAt_nI hz (by omega), ih]
    by_cases q : p + i < z ∧ isFig (f (p + i))
    · rw [if_pos (fig_if.mpr q), if_pos q]
      rfl
    · rw [if_neg (fun r => q (fig_if.mp r)), if_neg q]
theorem figN_fuel {f : Nat → Int32} {z : Nat} : ∀ n p : Nat, z - p ≤ n → figN f z n p = figN f z (z - p) p
  | 0, p, h => by rw [show z - p = 0 by omega]
  | n + 1, p, h => by
    by_cases q : p < z
    · have ih := figN_fuel (f := f) (z := z) n (p + 1) (by omega)
      rw [show z - p = (z - (p + 1)) + 1 by omega]
      show (if p < z ∧ isFig (f p) then figN f z n (p + 1) + 1 else 0) = (if p < z ∧ isFig (f p) then figN f z (z - (p + 1)) (p + 1) + 1 else 0)
      rw [ih]
    · rw [show z - p = 0 by omega]
      exact if_neg (fun r => q r.1)
theorem figN_le {f : Nat → Int32} {z : Nat} : ∀ n p : Nat, p ≤ z → p + figN f z n p ≤ z
  | 0, p, h => h
  | n + 1, p, h => by
    have ih := figN_le (f := f) (z := z) n (p + 1)
    unfold figN
    split
    · rename_i q
      have := ih q.1
      omega
    · exact h
theorem dgM_2 {f : Nat → Int32} {z : Nat} : ∀ (n : Nat) (v : Int32) (p : Nat), (dgM f z n v p).2 = p + figN f z n p
  | 0, _, _ => rfl
  | n + 1, v, p => by
    unfold dgM figN
    split
    · rw [dgM_2 n]
      omega
    · rfl
theorem dgM_0 {f : Nat → Int32} {z n p : Nat} {v : Int32} (h : figN f z n p = 0) : dgM f z n v p = (v, p) := by
  cases n with
  | zero => rfl
  | succ n =>
    refine dgM_stop (fun q => ?_)
    unfold figN at h
    rw [if_pos q] at h
    omega
theorem figN_p {f : Nat → Int32} {z n p : Nat} (h : 0 < figN f z n p) : ∃ m : Nat, n = m + 1 ∧ (p < z ∧ isFig (f p)) ∧ figN f z n p = figN f z m (p + 1) + 1 := by
  cases n with
  | zero => exact absurd h (Nat.lt_irrefl 0)
  | succ n =>
    unfold figN at h
    split at h
    · rename_i q
      exact ⟨n, rfl, q, if_pos q⟩
    · exact absurd h (Nat.lt_irrefl 0)
theorem fig_r {x : Int32} (h : isFig x) : ∃ j : Nat, 48 ≤ j ∧ j ≤ 57 ∧ x = nI j := by
  obtain ⟨h1, h2⟩ := h
  rw [Int32.lt_iff_toInt_lt] at h1 h2
  have e1 : (48 : Int32).toInt = 48 := rfl
  have e2 : (57 : Int32).toInt = 57 := rfl
  rw [e1] at h1
  rw [e2] at h2
  obtain ⟨j, hj, rfl⟩ := nI_of (x := x) (by
    rw [Int32.lt_iff_toInt_lt]
    have e3 : (0 : Int32).toInt = 0 := rfl
    omega)
  rw [nI_toInt hj] at h1 h2
  exact ⟨j, by omega, by omega, rfl⟩
theorem fig_99 {x : Int32} (h : isFig x) : (10 * 0 + x - 48 : Int32) ≤ 99 := by
  obtain ⟨j, h1, h2, rfl⟩ := fig_r h
  rcases (show j = 48 ∨ j = 49 ∨ j = 50 ∨ j = 51 ∨ j = 52 ∨ j = 53 ∨ j = 54 ∨ j = 55 ∨ j = 56 ∨ j = 57 by omega) with rfl | rfl | rfl | rfl | rfl | rfl | rfl | rfl | rfl | rfl <;> decide
theorem fig_n {x : Int32} (h : isFig x) : ¬ tokL x ∧ kindX x = 0 ∧ ¬ x = -1 := by
  obtain ⟨j, h1, h2, rfl⟩ := fig_r h
  rcases (show j = 48 ∨ j = 49 ∨ j = 50 ∨ j = 51 ∨ j = 52 ∨ j = 53 ∨ j = 54 ∨ j = 55 ∨ j = 56 ∨ j = 57 by omega) with rfl | rfl | rfl | rfl | rfl | rfl | rfl | rfl | rfl | rfl <;> decide
theorem dgM_v {f : Nat → Int32} {z n p : Nat} (hz : z ≤ 120) (hp : p ≤ 120) (h0 : 0 < figN f z n p) (h2 : figN f z n p ≤ 2) : (dgM f z n 0 p).1 = numX f z (nI p) (figN f z n p) := by
  obtain ⟨m, rfl, q, e⟩ := figN_p h0
  rw [dgM_go (by omega) q, if_pos (by decide), Nat.add_sub_cancel]
  have b0 : bAt f z (nI p + nI 0) = f p := by
    rw [nI_add, bAt_nI hz (by omega), if_pos (by omega)]
    rfl
  by_cases h1 : figN f z m (p + 1) = 0
  · rw [dgM_0 h1, e, h1]
    show (10 * 0 + f p - 48 : Int32) = numX f z (nI p) 0 * 10 + bAt f z (nI p + nI 0) - 48
    rw [b0]
    rfl
  · obtain ⟨m2, rfl, q2, e2⟩ := figN_p (show 0 < figN f z m (p + 1) by omega)
    have h3 : figN f z m2 (p + 1 + 1) = 0 := by omega
    have b1 : bAt f z (nI p + nI 1) = f (p + 1) := by
      rw [nI_add, bAt_nI hz (by omega), if_pos (by omega)]
    rw [dgM_go (by omega) q2, if_pos (fig_99 q.2), Nat.add_sub_cancel, dgM_0 h3, e, e2, h3]
    show (10 * (10 * 0 + f p - 48) + f (p + 1) - 48 : Int32) = (numX f z (nI p) 0 * 10 + bAt f z (nI p + nI 0) - 48) * 10 + bAt f z (nI p + nI 1) - 48
    rw [b0, b1, Int32.mul_comm 10]
    rfl
/-- what stands at a place -/
theorem nT_cases {f : Nat → Int32} {z p : Nat} (hz : z ≤ 120) (hp : p ≤ z) :
    (1 ≤ figX f z (nI p) 120 0 ∧ p + figX f z (nI p) 120 0 ≤ z ∧ (∃ V : Int32, nT f z p = (if figX f z (nI p) 120 0 ≤ 2 then 2 else 0, V, nI p, p + figX f z (nI p) 120 0) ∧ (figX f z (nI p) 120 0 ≤ 2 → V = numX f z (nI p) (figX f z (nI p) 120 0))) ∧ isFig (bAt f z (nI p)))
    ∨ (figX f z (nI p) 120 0 = 0 ∧ p < z ∧ nT f z p = (if tokL (f p) then 1 else 0, f p, nI p, p + 1) ∧ bAt f z (nI p) = f p)
    ∨ (figX f z (nI p) 120 0 = 0 ∧ p = z ∧ nT f z p = (3, 0, nI p, p) ∧ bAt f z (nI p) = -1) := by
  have e1 : figX f z (nI p) 120 0 = figN f z (z - p) p := by
    rw [figX_N hz 120 0 p (by omega)]
    exact figN_fuel 120 p (by omega)
  have e2 := dgM_2 (f := f) (z := z) (z - p) 0 p
  have e3 := bAt_nI (f := f) (p := p) hz (by omega)
  rw [e1]
  by_cases h : figN f z (z - p) p = 0
  · right
    have n1 : ¬ p < (dgM f z (z - p) 0 p).2 := by omega
    by_cases h2 : p = z
    · right
      refine ⟨h, h2, ?_, by rw [e3, if_neg (by omega)]⟩
      unfold nT
      rw [if_neg n1, if_pos h2]
    · left
      refine ⟨h, by omega, ?_, by rw [e3, if_pos (by omega)]⟩
      unfold nT
      rw [if_neg n1, if_neg h2]
  · left
    have h0 : 0 < figN f z (z - p) p := by omega
    obtain ⟨m, -, q, -⟩ := figN_p h0
    refine ⟨h0, figN_le _ _ hp, ⟨(dgM f z (z - p) 0 p).1, ?_, fun h2 => dgM_v hz (by omega) h0 h2⟩, by rw [e3, if_pos q.1]; exact q.2⟩
    unfold nT
    rw [if_pos (by omega), e2, Nat.add_sub_cancel_left]
/-- a letter, a sign -/
noncomputable abbrev okC (c : Int32) : Prop := tokL c ∧ ¬ isFig c ∧ ¬ c = -1
theorem kG_iff {f : Nat → Int32} {z p : Nat} {c : Int32} (hz : z ≤ 120) (hp : p ≤ z) (hc : okC c) : kG c (nT f z p) ↔ bAt f z (nI p) = c := by
  obtain ⟨c1, c2, c3⟩ := hc
  rcases nT_cases (f := f) hz hp with ⟨-, -, ⟨V, e, -⟩, g⟩ | ⟨-, -, e, b⟩ | ⟨-, -, e, b⟩
  · rw [e]
    constructor
    · rintro ⟨h, -⟩
      exfalso
      split at h
      · exact absurd h (by simp)
      · exact absurd h (by simp)
    · intro h
      exact absurd (h ▸ g) c2
  · rw [e, b]
    constructor
    · exact fun h => h.2
    · intro h
      exact ⟨if_pos (by rw [h]; exact c1), h⟩
  · rw [e, b]
    constructor
    · rintro ⟨h, -⟩
      exact absurd h (by simp)
    · exact fun h => absurd h.symm c3
theorem kG_p {f : Nat → Int32} {z p : Nat} {c : Int32} (hz : z ≤ 120) (hp : p ≤ z) (h : kG c (nT f z p)) : p < z ∧ (nT f z p).2.2.2 = p + 1 := by
  rcases nT_cases (f := f) hz hp with ⟨-, -, ⟨V, e, -⟩, -⟩ | ⟨-, g, e, -⟩ | ⟨-, -, e, -⟩
  · rw [e] at h
    exfalso
    have h1 := h.1
    split at h1
    · exact absurd h1 (by simp)
    · exact absurd h1 (by simp)
  · rw [e]
    exact ⟨g, rfl⟩
  · rw [e] at h
    exact absurd h.1 (by simp)
theorem nT_b {f : Nat → Int32} {z p : Nat} (hz : z ≤ 120) (hp : p ≤ z) : (nT f z p).2.2.1 = nI p := by
  rcases nT_cases (f := f) hz hp with ⟨-, -, ⟨V, e, -⟩, -⟩ | ⟨-, -, e, -⟩ | ⟨-, -, e, -⟩ <;> rw [e]
/-- the one at a place, the other with its token; or both at the same fault -/
noncomputable def XM (f : Nat → Int32) (z : Nat) (q : TQ) (u : MU) (e : Int32) : Prop := (q.2.1 = 0 ∧ e = 0 ∧ ∃ p : Nat, p ≤ z ∧ q.2.2 = nI p ∧ u = nT f z p) ∨ (¬ q.2.1 = 0 ∧ e = q.2.1 ∧ q.1 = u.2.2.1)
noncomputable def Sty (q r : TQ) : Prop := ¬ q.2.1 = 0 → r.1 = q.1 ∧ r.2.1 = q.2.1
theorem Sty.tr {q r t : TQ} (h : Sty q r) (h2 : Sty r t) : Sty q t := fun n => by
  obtain ⟨a, b⟩ := h n
  obtain ⟨c, d⟩ := h2 (by rw [b]; exact n)
  exact ⟨c.trans a, d.trans b⟩
theorem sty_F (n : Int32) (q : TQ) : Sty q (rF n q) := fun h => by
  unfold rF
  rw [if_neg h]
  exact ⟨rfl, rfl⟩
theorem sty_B (f : Nat → Int32) (z : Nat) (c : Int32) (q : TQ) : Sty q (rB f z c q) := fun h => by
  unfold rB
  split
  · exact ⟨rfl, rfl⟩
  · exact sty_F 1 q h
theorem sty_N (f : Nat → Int32) (z : Nat) (lo hi : Int32) (q : TQ) : Sty q (rN f z lo hi q) := fun h => by
  unfold rN
  split
  · exact sty_F 1 q h
  · split
    · exact sty_F 2 q h
    · exact ⟨rfl, rfl⟩
theorem sty_NB (f : Nat → Int32) (z : Nat) (lo hi c : Int32) (q : TQ) : Sty q (rB f z c (rN f z lo hi q)) := (sty_N f z lo hi q).tr (sty_B f z c _)
theorem xm_no {f : Nat → Int32} {z p : Nat} {r : TQ} {n : Int32} (hz : z ≤ 120) (hp : p ≤ z) (hn : ¬ n = 0) (h : Sty (nI p, n, nI p) r) : XM f z r (nT f z p) n := by
  obtain ⟨a, b⟩ := h hn
  exact Or.inr ⟨by rw [b]; exact hn, b.symm, by rw [a, nT_b hz hp]⟩
theorem rF_at (n fp k : Int32) : rF n (fp, 0, k) = (k, n, k) := if_pos rfl
theorem xm_B {f : Nat → Int32} {z p : Nat} {c fp : Int32} (hz : z ≤ 120) (hp : p ≤ z) (hc : okC c) : XM f z (rB f z c (fp, 0, nI p)) (kU f z c (nT f z p)) (if kG c (nT f z p) then 0 else 1) := by
  by_cases h : kG c (nT f z p)
  · obtain ⟨g1, g2⟩ := kG_p hz hp h
    have hb := (kG_iff hz hp hc).mp h
    unfold rB kU uT
    rw [if_pos hb, if_pos h, if_pos h, g2]
    exact Or.inl ⟨rfl, rfl, p + 1, g1, nI_add p 1, rfl⟩
  · have hb : ¬ bAt f z (nI p) = c := fun q => h ((kG_iff hz hp hc).mpr q)
    unfold rB kU
    rw [if_neg hb, if_neg h, if_neg h, rF_at]
    exact xm_no hz hp (by decide) (fun _ => ⟨rfl, rfl⟩)
theorem nG_iff {f : Nat → Int32} {z p : Nat} {lo hi : Int32} (hz : z ≤ 120) (hp : p ≤ z) : (nG lo hi (nT f z p) ↔ rG1 f z (nI p) ∧ rG2 f z (nI p) lo hi) ∧ ((nT f z p).1 = 2 ↔ rG1 f z (nI p)) ∧ (rG1 f z (nI p) → (nT f z p).2.1 = numX f z (nI p) (figX f z (nI p) 120 0) ∧ (nT f z p).2.2.2 = p + figX f z (nI p) 120 0 ∧ p + figX f z (nI p) 120 0 ≤ z) := by
  rcases nT_cases (f := f) hz hp with ⟨g1, g2, ⟨V, e, hv⟩, -⟩ | ⟨g, -, e, -⟩ | ⟨g, -, e, -⟩
  · have t2 : (nT f z p).1 = 2 ↔ rG1 f z (nI p) := by
      rw [e]
      constructor
      · intro h
        refine ⟨by omega, ?_⟩
        by_cases q : figX f z (nI p) 120 0 ≤ 2
        · exact q
        · simp only [if_neg q] at h
          exact absurd h (by decide)
      · intro h
        exact if_pos h.2
    have tv : rG1 f z (nI p) → (nT f z p).2.1 = numX f z (nI p) (figX f z (nI p) 120 0) := by
      intro h
      rw [e]
      exact hv h.2
    refine ⟨?_, t2, fun h => ⟨tv h, by rw [e], g2⟩⟩
    constructor
    · rintro ⟨h1, h2⟩
      have h3 := t2.mp h1
      rw [tv h3] at h2
      exact ⟨h3, fun q => h2 (Or.inl q), i_nlt.mp (fun q => h2 (Or.inr q))⟩
    · rintro ⟨h1, h2, h3⟩
      refine ⟨t2.mpr h1, ?_⟩
      rw [tv h1]
      rintro (q | q)
      · exact h2 q
      · exact i_nlt.mpr h3 q
  · have n1 : ¬ rG1 f z (nI p) := fun q => q.1 (by omega)
    have n2 : ¬ (nT f z p).1 = 2 := by
      rw [e]
      show ¬ (if tokL (f p) then (1 : Int32) else 0) = 2
      split <;> decide
    exact ⟨⟨fun q => absurd q.1 n2, fun q => absurd q.1 n1⟩, ⟨fun q => absurd q n2, fun q => absurd q n1⟩, fun q => absurd q n1⟩
  · have n1 : ¬ rG1 f z (nI p) := fun q => q.1 (by omega)
    have n2 : ¬ (nT f z p).1 = 2 := by
      rw [e]
      exact (by decide : ¬ (3 : Int32) = 2)
    exact ⟨⟨fun q => absurd q.1 n2, fun q => absurd q.1 n1⟩, ⟨fun q => absurd q n2, fun q => absurd q n1⟩, fun q => absurd q n1⟩
theorem xm_N {f : Nat → Int32} {z p ix : Nat} {lo hi c fp : Int32} {row : Nat → Int32} (hz : z ≤ 120) (hp : p ≤ z) (hc : okC c) : XM f z (rB f z c (rN f z lo hi (fp, 0, nI p))) (nRr f z lo hi ix c (nT f z p, row)).1.1 (nRr f z lo hi ix c (nT f z p, row)).2 ∧ ((nRr f z lo hi ix c (nT f z p, row)).2 = 0 → (nRr f z lo hi ix c (nT f z p, row)).1.2 = upd row ix (rV f z lo hi (nI p))) := by
  obtain ⟨n1, n2, n3⟩ := nG_iff (f := f) (lo := lo) (hi := hi) hz hp
  by_cases h : nG lo hi (nT f z p)
  · have hg := n1.mp h
    obtain ⟨m1, m2, m3⟩ := n3 hg.1
    have eN : rN f z lo hi (fp, 0, nI p) = (fp, 0, nI (p + figX f z (nI p) 120 0)) := by
      unfold rN
      rw [if_neg (fun q => q hg.1), if_neg (fun q => q hg.2)]
      show (fp, (0 : Int32), nI p + nI (figX f z (nI p) 120 0)) = _
      rw [nI_add]
    have eU : uT f z (nT f z p) = nT f z (p + figX f z (nI p) 120 0) := by
      unfold uT
      rw [m2]
    have hB := xm_B (f := f) (fp := fp) (c := c) hz m3 hc
    unfold nRr
    constructor
    · show XM f z _ (nU f z lo hi c (nT f z p)) (if nGG f z lo hi c (nT f z p) then 0 else nE lo hi (nT f z p))
      unfold nU nE
      rw [if_pos h, if_pos h, eN]
      by_cases k : kG c (nT f z (p + figX f z (nI p) 120 0))
      · rw [if_pos ⟨h, by rw [eU]; exact k⟩, eU]
        rw [if_pos k] at hB
        exact hB
      · rw [if_neg (fun q => k (by have := q.2; rw [eU] at this; exact this)), eU]
        rw [if_neg k] at hB
        exact hB
    · intro _
      show nR lo hi ix (nT f z p) row = _
      unfold nR rV
      rw [if_pos h, if_pos hg, m1]
  · have hne : ¬ nE lo hi (nT f z p) = 0 := by
      unfold nE
      rw [if_neg h]
      split <;> decide
    have eq2 : (nRr f z lo hi ix c (nT f z p, row)).2 = nE lo hi (nT f z p) := if_neg (fun q => h q.1)
    have eq1 : (nRr f z lo hi ix c (nT f z p, row)).1.1 = nT f z p := if_neg h
    rw [eq1, eq2]
    refine ⟨?_, fun q => absurd q hne⟩
    refine xm_no hz hp hne ?_
    refine Sty.tr (r := rN f z lo hi (fp, 0, nI p)) ?_ (sty_B f z c _)
    intro _
    unfold rN nE
    rw [if_neg h]
    by_cases g : rG1 f z (nI p)
    · rw [if_neg (fun q => q g), if_pos (fun q => h (n1.mpr ⟨g, q⟩)), rF_at, if_pos (n2.mpr g)]
      exact ⟨rfl, rfl⟩
    · rw [if_pos g, rF_at, if_neg (fun q => g (n2.mp q))]
      exact ⟨rfl, rfl⟩
/-- with what is known of the row where there is no fault -/
noncomputable def XP_ (f : Nat → Int32) (z : Nat) (q : TQ) (r : MR) (P : (Nat → Int32) → Prop) : Prop := XM f z q r.1.1 r.2 ∧ (r.2 = 0 → P r.1.2)
theorem xp_bind {f : Nat → Int32} {z : Nat} {q q2 : TQ} {r : MR} {k : MS → MR} {P P2 : (Nat → Int32) → Prop} (h : XP_ f z q r P) (hs : Sty q q2) (hk : ∀ (fp : Int32) (p : Nat) (row : Nat → Int32), p ≤ z → q = (fp, 0, nI p) → P row → XP_ f z q2 (k (nT f z p, row)) P2) : XP_ f z q2 (mB r k) P2 := by
  obtain ⟨⟨u, row⟩, e⟩ := r
  obtain ⟨fp, ft, kk⟩ := q
  obtain ⟨h1, h2⟩ := h
  unfold mB
  rcases h1 with ⟨a1, a2, p, a3, a4, a5⟩ | ⟨a1, a2, a3⟩
  · have a1 : ft = 0 := a1
    have a2 : e = 0 := a2
    have a4 : kk = nI p := a4
    have a5 : u = nT f z p := a5
    subst a1 a2 a4 a5
    rw [if_pos rfl]
    exact hk fp p row a3 rfl (h2 rfl)
  · have a1 : ¬ ft = 0 := a1
    have a2 : e = ft := a2
    have a3 : fp = u.2.2.1 := a3
    subst a2
    obtain ⟨b1, b2⟩ := hs a1
    rw [if_neg a1]
    exact ⟨Or.inr ⟨by rw [b2]; exact a1, b2.symm, b1.trans a3⟩, fun z_ => absurd z_ a1⟩
theorem nrm_0 {a b c : Int32} {g1 g2 g3 g4 g5 : Nat → Int32} : upd (upd (upd r0 0 a) 1 b) 2 c = nrm a b c 1 0 0 0 0 g1 g2 g3 g4 g5 := by
  funext j
  have e0 : nI 0 = 0 := rfl
  unfold r0 nrm upd
  rw [e0]
  grind (splits := 60)
theorem nrm_w {v0 v1 v2 v3 v5 v : Int32} {hh w kk : Nat} {g1 g2 g3 g4 g5 : Nat → Int32} (hw : w < 6) : upd (upd (nrm v0 v1 v2 v3 hh v5 w kk g1 g2 g3 g4 g5) 3 (nI w + 1)) (8 + w) v = nrm v0 v1 v2 v3 hh v5 (w + 1) kk (upd g1 w v) g2 g3 g4 g5 := by
  funext j
  have e0 : nI w + 1 = nI (w + 1) := nI_add w 1
  rw [e0]
  unfold nrm upd
  grind (splits := 60)
theorem nrm_s {v0 v1 v2 v3 v5 kd ce lo : Int32} {hh w k : Nat} {g1 g2 g3 g4 g5 : Nat → Int32} (hk : k < 6) : upd (upd (upd (upd (nrm v0 v1 v2 v3 hh v5 w k g1 g2 g3 g4 g5) (14 + k) kd) 4 (nI k + 1)) (20 + k) ce) (32 + k) lo = nrm v0 v1 v2 v3 hh v5 w (k + 1) g1 (upd g2 k kd) (upd g3 k ce) (upd g4 k lo) (upd g5 k 0) := by
  funext j
  have e0 : nI k + 1 = nI (k + 1) := nI_add k 1
  rw [e0]
  unfold nrm upd
  grind (splits := 60)
theorem xm_law {f : Nat → Int32} {z : Nat} (hz : z ≤ 120) (g1 g2 g3 g4 g5 : Nat → Int32) : XP_ f z (xLc f z (0, 0, 0)) (lRd f z) (fun row => row = nrm (xL0 f z (0, 0, 0)) (xL1 f z (0, 0, 0)) (xL2 f z (0, 0, 0)) 1 0 0 0 0 g1 g2 g3 g4 g5) := by
  have h1 : XP_ f z (rB f z 109 (0, 0, 0)) (lRa f z) (fun row => row = r0) := ⟨xm_B (p := 0) hz (Nat.zero_le _) (by decide), fun _ => rfl⟩
  have h2 : XP_ f z (xLa f z (0, 0, 0)) (lRb f z) (fun row => row = upd r0 0 (xL0 f z (0, 0, 0))) := by
    refine xp_bind h1 (sty_NB f z _ _ _ _) (fun fp p row hp e hr => ?_)
    have h := xm_N (f := f) (ix := 0) (lo := 5) (hi := 15) (c := 44) (fp := fp) (row := row) hz hp (by decide)
    unfold xLa xL0
    rw [e, ← hr]
    exact h
  have h3 : XP_ f z (xLb f z (0, 0, 0)) (lRc f z) (fun row => row = upd (upd r0 0 (xL0 f z (0, 0, 0))) 1 (xL1 f z (0, 0, 0))) := by
    refine xp_bind h2 (sty_NB f z _ _ _ _) (fun fp p row hp e hr => ?_)
    have h := xm_N (f := f) (ix := 1) (lo := 0) (hi := xL0 f z (0, 0, 0) - 1) (c := 44) (fp := fp) (row := row) hz hp (by decide)
    have er : row 0 = xL0 f z (0, 0, 0) := by rw [hr]; exact if_pos rfl
    unfold xLb xL1
    rw [e, ← hr]
    show XP_ f z _ (nRr f z 0 (row 0 - 1) 1 44 (nT f z p, row)) _
    rw [er]
    exact h
  have h4 : XP_ f z (xLc f z (0, 0, 0)) (lRd f z) (fun row => row = upd (upd (upd r0 0 (xL0 f z (0, 0, 0))) 1 (xL1 f z (0, 0, 0))) 2 (xL2 f z (0, 0, 0))) := by
    refine xp_bind h3 (sty_NB f z _ _ _ _) (fun fp p row hp e hr => ?_)
    have h := xm_N (f := f) (ix := 2) (lo := 0) (hi := 4) (c := 59) (fp := fp) (row := row) hz hp (by decide)
    unfold xLc xL2
    rw [e, ← hr]
    exact h
  exact ⟨h4.1, fun q => (h4.2 q).trans nrm_0⟩
section TWO
variable {f : Nat → Int32} {z : Nat} {v0 v1 v2 : Int32}
theorem nrm3 {v0 v1 v2 v3 v5 : Int32} {hh w k : Nat} {g1 g2 g3 g4 g5 : Nat → Int32} : nrm v0 v1 v2 v3 hh v5 w k g1 g2 g3 g4 g5 3 = nI w := rfl
theorem nrm4 {v0 v1 v2 v3 v5 : Int32} {hh w k : Nat} {g1 g2 g3 g4 g5 : Nat → Int32} : nrm v0 v1 v2 v3 hh v5 w k g1 g2 g3 g4 g5 4 = nI k := rfl
theorem nrm0 {v0 v1 v2 v3 v5 : Int32} {hh w k : Nat} {g1 g2 g3 g4 g5 : Nat → Int32} : nrm v0 v1 v2 v3 hh v5 w k g1 g2 g3 g4 g5 0 = v0 := rfl
theorem xW_1 (f : Nat → Int32) (z : Nat) (s : TW) : (xW f z s).1 = xWb f z s.1 s.2.1 := by
  unfold xW
  by_cases h : (xWb f z s.1 s.2.1).2.1 = 0
  · rw [if_pos h]
  · rw [if_neg h]
theorem sty_W (f : Nat → Int32) (z : Nat) (s : TW) : Sty s.1 (xW f z s).1 := by
  have h0 : Sty s.1 (xW0 f z s.1 s.2.1) := by
    intro n
    unfold xW0
    rw [if_neg (fun q => n q.1)]
    exact ⟨rfl, rfl⟩
  have h1 : Sty s.1 (xWb f z s.1 s.2.1) := by
    unfold xWb xWa
    exact (h0.tr (sty_B f z 119 _)).tr (sty_NB f z 0 4 59 _)
  rw [xW_1]
  exact h1
/-- winds: what is known of the two -/
noncomputable def XMW (f : Nat → Int32) (z : Nat) (v0 v1 v2 : Int32) (g2 g3 g4 g5 : Nat → Int32) (s : TW) (r : MR) : Prop := XP_ f z s.1 r (fun row => row = nrm v0 v1 v2 1 0 0 s.2.1 0 s.2.2 g2 g3 g4 g5 ∧ s.2.1 ≤ 6)
theorem xm_W_fin {B : TQ} {R : MR} {w : Nat} {g1 g2 g3 g4 g5 : Nat → Int32} (h1 : XM f z B R.1.1 R.2) (h2 : R.2 = 0 → R.1.2 = nrm v0 v1 v2 1 0 0 (w + 1) 0 g1 g2 g3 g4 g5) (hw : w + 1 ≤ 6) : XMW f z v0 v1 v2 g2 g3 g4 g5 (B, w + 1, g1) R := ⟨h1, fun q => ⟨h2 q, hw⟩⟩
theorem xm_W_no {B : TQ} {R : MR} {w : Nat} {g1 g2 g3 g4 g5 : Nat → Int32} (h1 : XM f z B R.1.1 R.2) (q : ¬ R.2 = 0) : XMW f z v0 v1 v2 g2 g3 g4 g5 (B, w, g1) R := ⟨h1, fun t => absurd t q⟩
theorem xm_W {p w : Nat} {fp : Int32} {g1 g2 g3 g4 g5 row : Nat → Int32} (hz : z ≤ 120) (hp : p ≤ z) (hw : w ≤ 6) (hr : row = nrm v0 v1 v2 1 0 0 w 0 g1 g2 g3 g4 g5) : XMW f z v0 v1 v2 g2 g3 g4 g5 (xW f z ((fp, 0, nI p), w, g1)) (wR f z (nT f z p, row)) := by
  have r3 : row 3 = nI w := by rw [hr]; rfl
  have n6 : (row 3 = 6) ↔ w = 6 := by rw [r3]; exact nI_eq (b := 6) (by omega) (by decide)
  have hB := kG_iff (f := f) (c := 119) hz hp (by decide)
  by_cases k : kG 119 (nT f z p)
  · have b := hB.mp k
    by_cases h6 : w = 6
    · have ng : ¬ wG0 (nT f z p, row) := fun q => q.2 (n6.mpr h6)
      have e1 : wR f z (nT f z p, row) = ((nT f z p, row), 3) := by
        unfold wR wS wE
        rw [if_neg ng, if_neg (fun q => ng q.1), if_neg ng, if_pos k]
      have e2 : xW0 f z (fp, 0, nI p) w = (nI p, 3, nI p) := by
        unfold xW0
        rw [if_pos ⟨rfl, b, by omega⟩, rF_at]
      have hs : Sty (nI p, 3, nI p) (xWb f z (fp, 0, nI p) w) := by
        unfold xWb xWa
        rw [e2]
        exact (sty_B f z 119 _).tr (sty_NB f z 0 4 59 _)
      have hx : (xW f z ((fp, 0, nI p), w, g1)).1 = xWb f z (fp, 0, nI p) w := xW_1 f z _
      unfold XMW
      rw [e1, hx]
      exact ⟨xm_no hz hp (by simp) hs, fun q => absurd q (by simp)⟩
    · have g : wG0 (nT f z p, row) := ⟨k, fun q => h6 (n6.mp q)⟩
      obtain ⟨g1_, g2_⟩ := kG_p hz hp k
      have eu : uT f z (nT f z p) = nT f z (p + 1) := by
        unfold uT
        rw [g2_]
      have e2 : xW0 f z (fp, 0, nI p) w = (fp, 0, nI p) := if_neg (fun q => by omega)
      have e3 : xWa f z (fp, 0, nI p) w = (fp, 0, nI (p + 1)) := by
        unfold xWa rB
        rw [e2, if_pos b]
        show (fp, (0 : Int32), nI p + 1) = _
        rw [show nI p + 1 = nI (p + 1) from nI_add p 1]
      have hN := xm_N (f := f) (ix := 8 + w) (lo := 0) (hi := 4) (c := 59) (fp := fp) (row := upd row 3 (row 3 + 1)) hz (show p + 1 ≤ z by omega) (by decide)
      have eR : wR f z (nT f z p, row) = nRr f z 0 4 (8 + w) 59 (nT f z (p + 1), upd row 3 (row 3 + 1)) := by
        unfold wR wS wE nRr
        rw [if_pos g, if_pos g]
        by_cases q : nGG f z 0 4 59 (nT f z (p + 1))
        · have gg : wGG f z (nT f z p, row) := ⟨g, by show nGG f z 0 4 59 (uT f z (nT f z p)); rw [eu]; exact q⟩
          have gq : nGG f z 0 4 59 (nT f z (p + 1), upd row 3 (row 3 + 1)).fst := q
          rw [if_pos gg, if_pos gq]
          dsimp only
          rw [eu, r3, nI_clamp (by omega)]
        · have gg : ¬ wGG f z (nT f z p, row) := fun t => q (by have := t.2; rw [eu] at this; exact this)
          have gq : ¬ nGG f z 0 4 59 (nT f z (p + 1), upd row 3 (row 3 + 1)).fst := q
          rw [if_neg gg, if_neg gq]
          dsimp only
          rw [eu, r3, nI_clamp (by omega)]
      have eb : xWb f z (fp, 0, nI p) w = rB f z 59 (rN f z 0 4 (fp, 0, nI (p + 1))) := by
        unfold xWb
        rw [e3]
      have hx1 := hN.1
      rw [← eb] at hx1
      rw [eR]
      by_cases q : (nRr f z 0 4 (8 + w) 59 (nT f z (p + 1), upd row 3 (row 3 + 1))).2 = 0
      · have q2 : (xWb f z (fp, 0, nI p) w).2.1 = 0 := by
          rw [eb]
          rcases hN.1 with ⟨a, -⟩ | ⟨a, b_, -⟩
          · exact a
          · exact absurd (b_.symm.trans q) a
        have ex : xW f z ((fp, 0, nI p), w, g1) = (xWb f z (fp, 0, nI p) w, w + 1, upd g1 w (rV f z 0 4 (nI (p + 1)))) := by
          unfold xW
          rw [if_pos q2]
          show (xWb f z (fp, 0, nI p) w, w + 1, upd g1 w (rV f z 0 4 (xWa f z (fp, 0, nI p) w).2.2)) = _
          rw [e3]
        rw [ex]
        have hx3 : upd (upd row 3 (row 3 + 1)) (8 + w) (rV f z 0 4 (nI (p + 1))) = nrm v0 v1 v2 1 0 0 (w + 1) 0 (upd g1 w (rV f z 0 4 (nI (p + 1)))) g2 g3 g4 g5 := by
          rw [hr, nrm3, nrm_w (by omega)]
        exact xm_W_fin hx1 (fun _ => (hN.2 q).trans hx3) (by omega)
      · have q2 : ¬ (xWb f z (fp, 0, nI p) w).2.1 = 0 := by
          rw [eb]
          rcases hN.1 with ⟨-, a, -⟩ | ⟨a, -⟩
          · exact absurd a q
          · exact a
        have ex : xW f z ((fp, 0, nI p), w, g1) = (xWb f z (fp, 0, nI p) w, w, g1) := by
          unfold xW
          rw [if_neg q2]
        rw [ex]
        exact xm_W_no hx1 q
  · have b : ¬ bAt f z (nI p) = 119 := fun q => k (hB.mpr q)
    have ng : ¬ wG0 (nT f z p, row) := fun q => k q.1
    have e1 : wR f z (nT f z p, row) = ((nT f z p, row), 1) := by
      unfold wR wS wE
      rw [if_neg ng, if_neg (fun q => ng q.1), if_neg ng, if_neg k]
    have e2 : xW0 f z (fp, 0, nI p) w = (fp, 0, nI p) := if_neg (fun q => b q.2.1)
    have e3 : xWa f z (fp, 0, nI p) w = (nI p, 1, nI p) := by
      unfold xWa rB
      rw [e2, if_neg b, rF_at]
    have hs : Sty (nI p, 1, nI p) (xWb f z (fp, 0, nI p) w) := by
      unfold xWb
      rw [e3]
      exact sty_NB f z 0 4 59 _
    have hx : (xW f z ((fp, 0, nI p), w, g1)).1 = xWb f z (fp, 0, nI p) w := xW_1 f z _
    unfold XMW
    rw [e1, hx]
    exact ⟨xm_no hz hp (by simp) hs, fun q => absurd q (by simp)⟩
theorem xm_Ws {g2 g3 g4 g5 : Nat → Int32} (hz : z ≤ 120) : ∀ (n : Nat) (s : TW) (r : MR), XMW f z v0 v1 v2 g2 g3 g4 g5 s r → XMW f z v0 v1 v2 g2 g3 g4 g5 (xWs f z n s) (wL f z n r)
  | 0, _, _, h => h
  | n + 1, ⟨⟨fp, ft, kk⟩, w, g1⟩, ⟨⟨u, row⟩, e⟩, h => by
    obtain ⟨h1, h2⟩ := id h
    rcases h1 with ⟨a1, a2, p, a3, a4, a5⟩ | ⟨a1, a2, a3⟩
    · have a1 : ft = 0 := a1
      have a2 : e = 0 := a2
      have a4 : kk = nI p := a4
      have a5 : u = nT f z p := a5
      subst a1 a2 a4 a5
      obtain ⟨b1, b2⟩ := h2 rfl
      have hB := kG_iff (f := f) (c := 119) hz a3 (by decide)
      by_cases k : kG 119 (nT f z p)
      · have c1 : xWg f z ((fp, 0, nI p), w, g1) := ⟨rfl, hB.mp k⟩
        have c2 : wLg ((nT f z p, row), 0) := ⟨rfl, k⟩
        rw [xWs_go (Nat.succ_pos n) c1, wL_go (Nat.succ_pos n) c2, Nat.succ_sub_one]
        have hW := xm_W (f := f) (z := z) (v0 := v0) (v1 := v1) (v2 := v2) (p := p) (w := w) (fp := fp) (g1 := g1) (g2 := g2) (g3 := g3) (g4 := g4) (g5 := g5) (row := row) hz a3 b2 b1
        exact xm_Ws hz n _ _ hW
      · have c1 : ¬ xWg f z ((fp, 0, nI p), w, g1) := fun q => k (hB.mpr q.2)
        have c2 : ¬ wLg ((nT f z p, row), 0) := fun q => k q.2
        rw [xWs_stop c1, wL_stop c2]
        exact h
    · rw [xWs_stop (fun q => a1 q.1), wL_stop (fun q => a1 (a2.symm.trans q.1))]
      exact h
theorem sty_Ws (f : Nat → Int32) (z : Nat) : ∀ (n : Nat) (s : TW), Sty s.1 (xWs f z n s).1
  | 0, _ => fun _ => ⟨rfl, rfl⟩
  | n + 1, s => by
    unfold xWs
    split
    · exact (sty_W f z s).tr (sty_Ws f z n _)
    · exact fun _ => ⟨rfl, rfl⟩
end TWO

-- 38.tpb_d
section TWOS
variable {f : Nat → Int32} {z : Nat} {v0 v1 v2 : Int32} {g1 : Nat → Int32} {w : Nat}
theorem kd_eq {p : Nat} (hz : z ≤ 120) (hp : p ≤ z) : kdM (nT f z p) = kindX (bAt f z (nI p)) ∧ (¬ kdM (nT f z p) = 0 → p < z ∧ (nT f z p).2.2.2 = p + 1) := by
  rcases nT_cases (f := f) hz hp with ⟨-, -, ⟨V, e, -⟩, g⟩ | ⟨-, g, e, b⟩ | ⟨-, -, e, b⟩
  · have h : kdM (nT f z p) = 0 := by
      rw [e]
      unfold kdM
      refine if_neg (fun h => ?_)
      have h : (if figX f z (nI p) 120 0 ≤ 2 then (2 : Int32) else 0) = 1 := h
      split at h
      · exact absurd h (by decide)
      · exact absurd h (by decide)
    exact ⟨h.trans (fig_n g).2.1.symm, fun q => absurd h q⟩
  · rw [e, b]
    refine ⟨?_, fun _ => ⟨g, rfl⟩⟩
    unfold kdM
    by_cases t : tokL (f p)
    · have h1 : (if tokL (f p) then (1 : Int32) else 0) = 1 := if_pos t
      exact if_pos h1
    · have h1 : (if tokL (f p) then (1 : Int32) else 0) = 0 := if_neg t
      have h2 : ¬ (if tokL (f p) then (1 : Int32) else 0) = 1 := by rw [h1]; decide
      refine (if_neg h2).trans ?_
      unfold kindX
      have nn : ∀ c : Int32, tokL c → ¬ f p = c := fun c hc q => t (q ▸ hc)
      rw [if_neg (nn 118 (by decide)), if_neg (nn 98 (by decide)), if_neg (nn 104 (by decide)), if_neg (nn 100 (by decide)), if_neg (nn 115 (by decide))]
  · have h : kdM ((3 : Int32), (0 : Int32), nI p, p) = 0 := if_neg (show ¬ (3 : Int32) = 1 by decide)
    have h2 : kindX (-1) = 0 := by decide
    rw [e, b]
    exact ⟨h.trans h2.symm, fun q => absurd h q⟩
theorem xS_1 (f : Nat → Int32) (z : Nat) (c : Int32) (s : TS) : (xS f z c s).1 = xSc f z c s.1 s.2.1 := by
  unfold xS
  by_cases h : (xSc f z c s.1 s.2.1).2.1 = 0
  · rw [if_pos h]
  · rw [if_neg h]
theorem sty_S0 (f : Nat → Int32) (z : Nat) (q : TQ) (w : Nat) : Sty q (xS0 f z q w) := by
  unfold xS0
  split
  · exact sty_F 1 _
  · split
    · exact sty_F 3 _
    · exact fun _ => ⟨rfl, rfl⟩
theorem sty_Sa (f : Nat → Int32) (z : Nat) (q : TQ) (w : Nat) : Sty q (xSa f z q w) := by
  have h := sty_S0 f z q w
  unfold xSa
  generalize xS0 f z q w = t at h ⊢
  intro n
  exact h n
theorem sty_S (f : Nat → Int32) (z : Nat) (c : Int32) (s : TS) : Sty s.1 (xS f z c s).1 := by
  have h1 : Sty s.1 (xSc f z c s.1 s.2.1) := by
    unfold xSc xSb
    exact ((sty_Sa f z s.1 s.2.1).tr (sty_NB f z 0 (c - 1) 44 _)).tr (sty_NB f z 1 20 59 _)
  rw [xS_1]
  exact h1
theorem sty_Ss (f : Nat → Int32) (z : Nat) (c : Int32) : ∀ (n : Nat) (s : TS), Sty s.1 (xSs f z c n s).1
  | 0, _ => fun _ => ⟨rfl, rfl⟩
  | n + 1, s => by
    unfold xSs
    split
    · exact (sty_S f z c s).tr (sty_Ss f z c n _)
    · exact fun _ => ⟨rfl, rfl⟩
theorem sty_SS (f : Nat → Int32) (z : Nat) (c : Int32) (n : Nat) (s : TS) : Sty s.1 (xSs f z c n (xS f z c s)).1 := (sty_S f z c s).tr (sty_Ss f z c n (xS f z c s))
theorem xS_p {c : Int32} {s : TS} (h : (xSc f z c s.1 s.2.1).2.1 = 0) : xS f z c s = (xSc f z c s.1 s.2.1, s.2.1 + 1, upd s.2.2.1 s.2.1 (kindX (bAt f z s.1.2.2)), upd s.2.2.2.1 s.2.1 (rV f z 0 (c - 1) (xSa f z s.1 s.2.1).2.2), upd s.2.2.2.2.1 s.2.1 (rV f z 1 20 (xSb f z c s.1 s.2.1).2.2), upd s.2.2.2.2.2 s.2.1 0) := by
  unfold xS
  rw [if_pos h]
theorem xS_pos {c : Int32} {q : TQ} {k : Nat} {g2 g3 g4 g5 : Nat → Int32} (h : (xSc f z c q k).2.1 = 0) : xS f z c (q, k, g2, g3, g4, g5) = (xSc f z c q k, k + 1, upd g2 k (kindX (bAt f z q.2.2)), upd g3 k (rV f z 0 (c - 1) (xSa f z q k).2.2), upd g4 k (rV f z 1 20 (xSb f z c q k).2.2), upd g5 k 0) := by
  have e := xS_p (f := f) (z := z) (c := c) (s := (q, k, g2, g3, g4, g5))
  dsimp only at e
  exact e h
theorem xS_k (f : Nat → Int32) (z : Nat) (c : Int32) (s : TS) (h : 1 ≤ s.2.1) : 1 ≤ (xS f z c s).2.1 := by
  unfold xS
  by_cases q : (xSc f z c s.1 s.2.1).2.1 = 0
  · rw [if_pos q]
    show 1 ≤ s.2.1 + 1
    omega
  · rw [if_neg q]
    exact h
theorem xS_k1 (f : Nat → Int32) (z : Nat) (c : Int32) (s : TS) (q : (xS f z c s).1.2.1 = 0) : 1 ≤ (xS f z c s).2.1 := by
  rw [xS_1] at q
  unfold xS
  rw [if_pos q]
  show 1 ≤ s.2.1 + 1
  omega
/-- sounds: what is known of the two -/
noncomputable def XMS (f : Nat → Int32) (z : Nat) (v0 v1 v2 : Int32) (w : Nat) (g1 : Nat → Int32) (s : TS) (r : MR) : Prop := XP_ f z s.1 r (fun row => row = nrm v0 v1 v2 1 0 0 w s.2.1 g1 s.2.2.1 s.2.2.2.1 s.2.2.2.2.1 s.2.2.2.2.2 ∧ s.2.1 ≤ 6)
theorem xm_S_fin {B : TQ} {R : MR} {k : Nat} {g2 g3 g4 g5 : Nat → Int32} (h1 : XM f z B R.1.1 R.2) (h2 : R.2 = 0 → R.1.2 = nrm v0 v1 v2 1 0 0 w (k + 1) g1 g2 g3 g4 g5) (hk : k + 1 ≤ 6) : XMS f z v0 v1 v2 w g1 (B, k + 1, g2, g3, g4, g5) R := ⟨h1, fun q => ⟨h2 q, hk⟩⟩
theorem xm_S_no {s : TS} {B : TQ} {R : MR} (hx : s.1 = B) (h1 : XM f z B R.1.1 R.2) (q : ¬ R.2 = 0) : XMS f z v0 v1 v2 w g1 s R := ⟨by rw [hx]; exact h1, fun t => absurd t q⟩
theorem xm_S_flt {q : TQ} {s : TS} {R : MR} (hs : Sty q s.1) (a1 : ¬ q.2.1 = 0) (a2 : R.2 = q.2.1) (a3 : q.1 = R.1.1.2.2.1) : XMS f z v0 v1 v2 w g1 s R := by
  obtain ⟨y1, y2⟩ := hs a1
  exact ⟨Or.inr ⟨fun h => a1 (y2.symm.trans h), a2.trans y2.symm, y1.trans a3⟩, fun q => absurd (a2.symm.trans q) a1⟩
theorem sR_eq {s : MS} (g : sG0 s) : sR f z s = mB (nRr f z 0 (s.2 0 - 1) (20 + (s.2 4).toNatClampNeg) 44 (uT f z s.1, sRa s)) (fun t => nRr f z 1 20 (32 + (s.2 4).toNatClampNeg) 59 t) := by
  by_cases g1 : sG1 f z s
  · have e1 : nRr f z 0 (s.2 0 - 1) (20 + (s.2 4).toNatClampNeg) 44 (uT f z s.1, sRa s) = ((sUb f z s, sRb f z s), 0) := by
      unfold nRr sUb sRb
      exact congrArg (Prod.mk _) (if_pos g1)
    have e2 : mB ((sUb f z s, sRb f z s), (0 : Int32)) (fun t => nRr f z 1 20 (32 + (s.2 4).toNatClampNeg) 59 t) = nRr f z 1 20 (32 + (s.2 4).toNatClampNeg) 59 (sUb f z s, sRb f z s) := if_pos rfl
    have e3 : sS f z s = (nU f z 1 20 59 (sUb f z s), nR 1 20 (32 + (s.2 4).toNatClampNeg) (sUb f z s) (sRb f z s)) := by
      unfold sS
      rw [if_pos g, if_pos g1]
    have e4 : sE f z s = nE 1 20 (sUb f z s) := by
      unfold sE
      rw [if_pos g, if_pos g1]
    rw [e1, e2]
    unfold sR nRr
    rw [e3, e4]
    refine congrArg (Prod.mk _) ?_
    by_cases g2 : nGG f z 1 20 59 (sUb f z s)
    · exact (if_pos (show sGG f z s from ⟨g, g1, g2⟩)).trans (if_pos g2).symm
    · exact (if_neg (fun q : sGG f z s => g2 q.2.2)).trans (if_neg g2).symm
  · have e1 : nRr f z 0 (s.2 0 - 1) (20 + (s.2 4).toNatClampNeg) 44 (uT f z s.1, sRa s) = ((sUb f z s, sRb f z s), nE 0 (s.2 0 - 1) (uT f z s.1)) := by
      unfold nRr sUb sRb
      exact congrArg (Prod.mk _) (if_neg g1)
    have hne := nE_nz 0 (s.2 0 - 1) (uT f z s.1)
    have e2 : mB ((sUb f z s, sRb f z s), nE 0 (s.2 0 - 1) (uT f z s.1)) (fun t => nRr f z 1 20 (32 + (s.2 4).toNatClampNeg) 59 t) = ((sUb f z s, sRb f z s), nE 0 (s.2 0 - 1) (uT f z s.1)) := if_neg hne
    have e3 : sS f z s = (sUb f z s, sRb f z s) := by
      unfold sS
      rw [if_pos g, if_neg g1]
    have e4 : sE f z s = nE 0 (s.2 0 - 1) (uT f z s.1) := by
      unfold sE
      rw [if_pos g, if_neg g1]
    have e5 : ¬ sGG f z s := fun q => g1 q.2.1
    rw [e1, e2]
    unfold sR
    rw [e3, e4, if_neg e5]
theorem xm_S {p k : Nat} {fp : Int32} {g2 g3 g4 g5 row : Nat → Int32} (hz : z ≤ 120) (hp : p ≤ z) (hk : k ≤ 6) (hr : row = nrm v0 v1 v2 1 0 0 w k g1 g2 g3 g4 g5) : XMS f z v0 v1 v2 w g1 (xS f z v0 ((fp, 0, nI p), k, g2, g3, g4, g5)) (sR f z (nT f z p, row)) := by
  have r4 : row 4 = nI k := by rw [hr]; exact nrm4
  have r00 : row 0 = v0 := by rw [hr]; exact nrm0
  have n6 : (row 4 = 6) ↔ k = 6 := by rw [r4]; exact nI_eq (b := 6) (by omega) (by decide)
  obtain ⟨k1, k2⟩ := kd_eq (f := f) hz hp
  have hx : (xS f z v0 ((fp, 0, nI p), k, g2, g3, g4, g5)).1 = xSc f z v0 (fp, 0, nI p) k := xS_1 f z v0 _
  by_cases h0 : kdM (nT f z p) = 0
  · have ng : ¬ sG0 (nT f z p, row) := fun q => q.1 h0
    have e1 : sR f z (nT f z p, row) = ((nT f z p, row), 1) := by
      unfold sR sS sE
      rw [if_neg ng, if_neg (fun q => ng q.1), if_neg ng, if_pos h0]
    have c1 : kindX (bAt f z (nI p)) = 0 := k1.symm.trans h0
    have e2 : xS0 f z (fp, 0, nI p) k = (nI p, 1, nI p) := Eq.trans (if_pos c1) (rF_at 1 fp (nI p))
    have hs : Sty (nI p, 1, nI p) (xSc f z v0 (fp, 0, nI p) k) := by
      unfold xSc xSb xSa
      rw [e2]
      exact Sty.tr (r := (nI p, 1, nI p + 1)) (fun _ => ⟨rfl, rfl⟩) ((sty_NB f z 0 (v0 - 1) 44 _).tr (sty_NB f z 1 20 59 _))
    rw [e1]
    exact xm_S_no hx (xm_no hz hp (show ¬ (1 : Int32) = 0 by decide) hs) (show ¬ (1 : Int32) = 0 by decide)
  · have c1 : ¬ kindX (bAt f z (nI p)) = 0 := fun q => h0 (k1.trans q)
    by_cases h6 : k = 6
    · have ng : ¬ sG0 (nT f z p, row) := fun q => q.2 (n6.mpr h6)
      have e1 : sR f z (nT f z p, row) = ((nT f z p, row), 3) := by
        unfold sR sS sE
        rw [if_neg ng, if_neg (fun q => ng q.1), if_neg ng, if_neg h0]
      have c2 : ¬ k < 6 := by omega
      have e2 : xS0 f z (fp, 0, nI p) k = (nI p, 3, nI p) := Eq.trans (if_neg c1) (Eq.trans (if_pos c2) (rF_at 3 fp (nI p)))
      have hs : Sty (nI p, 3, nI p) (xSc f z v0 (fp, 0, nI p) k) := by
        unfold xSc xSb xSa
        rw [e2]
        exact Sty.tr (r := (nI p, 3, nI p + 1)) (fun _ => ⟨rfl, rfl⟩) ((sty_NB f z 0 (v0 - 1) 44 _).tr (sty_NB f z 1 20 59 _))
      rw [e1]
      exact xm_S_no hx (xm_no hz hp (show ¬ (3 : Int32) = 0 by decide) hs) (show ¬ (3 : Int32) = 0 by decide)
    · have g : sG0 (nT f z p, row) := ⟨h0, fun q => h6 (n6.mp q)⟩
      obtain ⟨p1, p2⟩ := k2 h0
      have eu : uT f z (nT f z p) = nT f z (p + 1) := by
        unfold uT
        rw [p2]
      have c2 : ¬ ¬ k < 6 := fun q => q (by omega)
      have e2 : xS0 f z (fp, 0, nI p) k = (fp, 0, nI p) := Eq.trans (if_neg c1) (if_neg c2)
      have e3 : xSa f z (fp, 0, nI p) k = (fp, 0, nI (p + 1)) := by
        unfold xSa
        rw [e2]
        show (fp, (0 : Int32), nI p + 1) = _
        rw [show nI p + 1 = nI (p + 1) from nI_add p 1]
      have ra : sRa (nT f z p, row) = upd (upd row (14 + k) (kindX (bAt f z (nI p)))) 4 (nI k + 1) := by
        unfold sRa
        show upd (upd row (14 + (row 4).toNatClampNeg) (kdM (nT f z p))) 4 (row 4 + 1) = _
        rw [r4, nI_clamp (by omega), k1]
      have c4 : (row 4).toNatClampNeg = k := by rw [r4, nI_clamp (by omega)]
      have hA : XP_ f z (xSb f z v0 (fp, 0, nI p) k) (nRr f z 0 (v0 - 1) (20 + k) 44 (nT f z (p + 1), sRa (nT f z p, row))) (fun t => t = upd (sRa (nT f z p, row)) (20 + k) (rV f z 0 (v0 - 1) (nI (p + 1)))) := by
        have hN := xm_N (f := f) (z := z) (p := p + 1) (ix := 20 + k) (lo := 0) (hi := v0 - 1) (c := 44) (fp := fp) (row := sRa (nT f z p, row)) hz (by omega) (by decide)
        unfold xSb
        rw [e3]
        exact hN
      have eR : sR f z (nT f z p, row) = mB (nRr f z 0 (v0 - 1) (20 + k) 44 (nT f z (p + 1), sRa (nT f z p, row))) (fun t => nRr f z 1 20 (32 + k) 59 t) := by
        have h := sR_eq (f := f) (z := z) g
        dsimp only at h
        rw [c4, r00, eu] at h
        exact h
      have hB : XP_ f z (xSc f z v0 (fp, 0, nI p) k) (sR f z (nT f z p, row)) (fun t => t = upd (upd (sRa (nT f z p, row)) (20 + k) (rV f z 0 (v0 - 1) (nI (p + 1)))) (32 + k) (rV f z 1 20 (xSb f z v0 (fp, 0, nI p) k).2.2)) := by
        rw [eR]
        unfold xSc
        generalize xSb f z v0 (fp, 0, nI p) k = B at hA ⊢
        generalize nRr f z 0 (v0 - 1) (20 + k) 44 (nT f z (p + 1), sRa (nT f z p, row)) = R at hA ⊢
        refine xp_bind hA (sty_NB f z 1 20 59 B) (fun fp2 p2_ row2 hp2 e hr2 => ?_)
        have hN := xm_N (f := f) (z := z) (p := p2_) (ix := 32 + k) (lo := 1) (hi := 20) (c := 59) (fp := fp2) (row := row2) hz hp2 (by decide)
        rw [e, ← hr2]
        exact hN
      by_cases q : (sR f z (nT f z p, row)).2 = 0
      · have q2 : (xSc f z v0 (fp, 0, nI p) k).2.1 = 0 := by
          rcases hB.1 with ⟨a, -⟩ | ⟨a, b_, -⟩
          · exact a
          · exact absurd (b_.symm.trans q) a
        have ex := xS_pos (f := f) (z := z) (c := v0) (q := (fp, 0, nI p)) (k := k) (g2 := g2) (g3 := g3) (g4 := g4) (g5 := g5) q2
        rw [e3] at ex
        dsimp only at ex
        rw [ex]
        have hx3 : upd (upd (sRa (nT f z p, row)) (20 + k) (rV f z 0 (v0 - 1) (nI (p + 1)))) (32 + k) (rV f z 1 20 (xSb f z v0 (fp, 0, nI p) k).2.2) = nrm v0 v1 v2 1 0 0 w (k + 1) g1 (upd g2 k (kindX (bAt f z (nI p)))) (upd g3 k (rV f z 0 (v0 - 1) (nI (p + 1)))) (upd g4 k (rV f z 1 20 (xSb f z v0 (fp, 0, nI p) k).2.2)) (upd g5 k 0) := by
          rw [ra, hr]
          exact nrm_s (by omega)
        exact xm_S_fin hB.1 (fun _ => (hB.2 q).trans hx3) (by omega)
      · exact xm_S_no hx hB.1 q
theorem end_iff {p : Nat} (hz : z ≤ 120) (hp : p ≤ z) (hT : okT f z) : (nT f z p).1 = 3 ↔ bAt f z (nI p) = -1 := by
  rcases nT_cases (f := f) hz hp with ⟨-, -, ⟨V, e, -⟩, g⟩ | ⟨-, g, e, b⟩ | ⟨-, -, e, b⟩
  · rw [e]
    constructor
    · intro h
      exfalso
      have h : (if figX f z (nI p) 120 0 ≤ 2 then (2 : Int32) else 0) = 3 := h
      split at h
      · exact absurd h (by decide)
      · exact absurd h (by decide)
    · intro h
      exact absurd h (fig_n g).2.2
  · rw [e, b]
    constructor
    · intro h
      exfalso
      have h : (if tokL (f p) then (1 : Int32) else 0) = 3 := h
      split at h
      · exact absurd h (by decide)
      · exact absurd h (by decide)
    · intro h
      exact absurd h (hT p g)
  · rw [e, b]
    exact ⟨fun _ => rfl, fun _ => rfl⟩
theorem xm_Ss (hz : z ≤ 120) (hT : okT f z) : ∀ (n : Nat) (s : TS) (r : MR), 1 ≤ s.2.1 ∨ ¬ r.2 = 0 → XMS f z v0 v1 v2 w g1 s r → XMS f z v0 v1 v2 w g1 (xSs f z v0 n s) (sL f z n r)
  | 0, _, _, _, h => h
  | n + 1, ⟨⟨fp, ft, kk⟩, k, g2, g3, g4, g5⟩, ⟨⟨u, row⟩, e⟩, hk, h => by
    obtain ⟨h1, h2⟩ := id h
    rcases h1 with ⟨a1, a2, p, a3, a4, a5⟩ | ⟨a1, a2, a3⟩
    · have a1 : ft = 0 := a1
      have a2 : e = 0 := a2
      have a4 : kk = nI p := a4
      have a5 : u = nT f z p := a5
      subst a1 a2 a4 a5
      obtain ⟨b1, b2⟩ := h2 rfl
      have b2 : k ≤ 6 := b2
      have b1 : row = nrm v0 v1 v2 1 0 0 w k g1 g2 g3 g4 g5 := b1
      have k1 : 1 ≤ k := hk.resolve_right (fun q => q rfl)
      have r4 : ¬ row 4 = 0 := by
        rw [b1, nrm4]
        exact nI_ne0 k1 (by omega)
      have hE := end_iff (f := f) hz a3 hT
      by_cases q : bAt f z (nI p) = -1
      · have c1 : ¬ xSg f z ((fp, 0, nI p), k, g2, g3, g4, g5) := fun t => t.2 q
        have c2 : ¬ sLg ((nT f z p, row), 0) := fun t => t.2 ⟨hE.mpr q, r4⟩
        rw [xSs_stop c1, sL_stop c2]
        exact h
      · have c1 : xSg f z ((fp, 0, nI p), k, g2, g3, g4, g5) := ⟨rfl, q⟩
        have c2 : sLg ((nT f z p, row), 0) := ⟨rfl, fun t => q (hE.mp t.1)⟩
        rw [xSs_go (Nat.succ_pos n) c1, sL_go (Nat.succ_pos n) c2, Nat.succ_sub_one]
        have hS := xm_S (f := f) (z := z) (v0 := v0) (v1 := v1) (v2 := v2) (w := w) (g1 := g1) (p := p) (k := k) (fp := fp) (g2 := g2) (g3 := g3) (g4 := g4) (g5 := g5) (row := row) hz a3 b2 b1
        exact xm_Ss hz hT n _ _ (Or.inl (xS_k f z v0 ((fp, 0, nI p), k, g2, g3, g4, g5) k1)) hS
    · rw [xSs_stop (fun q => a1 q.1), sL_stop (fun q => a1 (a2.symm.trans q.1))]
      exact h
/-- the two ways of reading -/
theorem xm_read (hz : z ≤ 120) (hT : okT f z) (g1 g2 g3 g4 g5 : Nat → Int32) : XMS f z (xL0 f z (0, 0, 0)) (xL1 f z (0, 0, 0)) (xL2 f z (0, 0, 0)) (xRw f z g1).2.1 (xRw f z g1).2.2 (xRs f z g1 g2 g3 g4 g5) (rR f z) := by
  have h1 := xm_law (f := f) hz g1 g2 g3 g4 g5
  unfold xRs xRw rR lRe
  generalize xL0 f z (0, 0, 0) = v0 at h1 ⊢
  generalize xL1 f z (0, 0, 0) = v1 at h1 ⊢
  generalize xL2 f z (0, 0, 0) = v2 at h1 ⊢
  generalize xLc f z (0, 0, 0) = q0 at h1 ⊢
  generalize lRd f z = rd at h1 ⊢
  have h2 : XMW f z v0 v1 v2 g2 g3 g4 g5 (xW f z (q0, 0, g1)) (mB rd (fun s => wR f z s)) := by
    unfold XMW
    refine xp_bind h1 (sty_W f z (q0, 0, g1)) (fun fp p row hp e hr => ?_)
    rw [e]
    exact xm_W (f := f) (z := z) (v0 := v0) (v1 := v1) (v2 := v2) (p := p) (w := 0) (fp := fp) (g1 := g1) (g2 := g2) (g3 := g3) (g4 := g4) (g5 := g5) (row := row) hz hp (by decide) hr
  have h3 : XMW f z v0 v1 v2 g2 g3 g4 g5 (xWs f z 6 (xW f z (q0, 0, g1))) (wL f z 6 (mB rd (fun s => wR f z s))) := xm_Ws hz 6 _ _ h2
  generalize xWs f z 6 (xW f z (q0, 0, g1)) = W at h3 ⊢
  generalize wL f z 6 (mB rd (fun s => wR f z s)) = R at h3 ⊢
  obtain ⟨⟨fp, ft, kk⟩, w, gw⟩ := W
  obtain ⟨⟨u, row⟩, e⟩ := R
  obtain ⟨a, b⟩ := id h3
  rcases a with ⟨a1, a2, p, a3, a4, a5⟩ | ⟨a1, a2, a3⟩
  · have a1 : ft = 0 := a1
    have a2 : e = 0 := a2
    have a4 : kk = nI p := a4
    have a5 : u = nT f z p := a5
    subst a1 a2 a4 a5
    obtain ⟨b1, b2⟩ := b rfl
    have b1 : row = nrm v0 v1 v2 1 0 0 w 0 gw g2 g3 g4 g5 := b1
    have r4 : row 4 = 0 := by rw [b1]; exact nrm4
    have c2 : sLg ((nT f z p, row), 0) := ⟨rfl, fun t => t.2 r4⟩
    rw [sL_go (n := 7) (by decide) c2]
    have hS := xm_S (f := f) (z := z) (v0 := v0) (v1 := v1) (v2 := v2) (w := w) (g1 := gw) (p := p) (k := 0) (fp := fp) (g2 := g2) (g3 := g3) (g4 := g4) (g5 := g5) (row := row) hz a3 (by decide) b1
    have hp : 1 ≤ (xS f z v0 ((fp, 0, nI p), 0, g2, g3, g4, g5)).2.1 ∨ ¬ (sR f z (nT f z p, row)).2 = 0 := by
      by_cases t : (sR f z (nT f z p, row)).2 = 0
      · obtain ⟨hX, -⟩ := hS
        generalize sR f z (nT f z p, row) = R at hX t ⊢
        left
        rcases hX with ⟨c1, -⟩ | ⟨c1, c2, -⟩
        · exact xS_k1 f z v0 ((fp, 0, nI p), 0, g2, g3, g4, g5) c1
        · exact absurd (c2.symm.trans t) c1
      · exact Or.inr t
    dsimp only
    exact xm_Ss hz hT 6 _ _ hp hS
  · have a1 : ¬ ft = 0 := a1
    have a2 : e = ft := a2
    have a3 : fp = u.2.2.1 := a3
    have c2 : ¬ sLg ((u, row), e) := fun q => a1 (a2.symm.trans q.1)
    rw [sL_stop c2]
    exact xm_S_flt (q := (fp, ft, kk)) (sty_SS f z v0 6 ((fp, ft, kk), 0, g2, g3, g4, g5)) a1 a2 a3
/-- what the class answers, and its fault -/
theorem lv_ans (hz : z ≤ 120) (hT : okT f z) (g1 g2 g3 g4 g5 : Nat → Int32) : ((xRs f z g1 g2 g3 g4 g5).1.2.1 = 0 → nI (xRs f z g1 g2 g3 g4 g5).2.1 = lvA f z ∧ ∀ lf : Int32, lf = lvF f z lf) ∧ (¬ (xRs f z g1 g2 g3 g4 g5).1.2.1 = 0 → -1000100 - (xRs f z g1 g2 g3 g4 g5).1.1 = lvA f z ∧ ∀ lf : Int32, (xRs f z g1 g2 g3 g4 g5).1.2.1 = lvF f z lf) := by
  have h := xm_read hz hT g1 g2 g3 g4 g5
  unfold lvA lvF
  generalize xRs f z g1 g2 g3 g4 g5 = X at h ⊢
  generalize rR f z = R at h ⊢
  obtain ⟨a, b⟩ := h
  rcases a with ⟨a1, a2, -⟩ | ⟨a1, a2, a3⟩
  · refine ⟨fun _ => ⟨?_, fun lf => (if_pos a2).symm⟩, fun q => absurd a1 q⟩
    obtain ⟨b1, -⟩ := b a2
    exact ((if_pos a2).trans ((congrFun b1 4).trans nrm4)).symm
  · have n2 : ¬ R.2 = 0 := fun q => a1 (a2.symm.trans q)
    refine ⟨fun q => absurd q a1, fun _ => ⟨?_, fun lf => ?_⟩⟩
    · exact (congrArg (fun t => -1000100 - t) a3).trans (if_neg n2).symm
    · exact a2.symm.trans (if_neg n2).symm
/-- the level that is read -/
theorem lv_row (hz : z ≤ 120) (hT : okT f z) (g1 g2 g3 g4 g5 : Nat → Int32) : ((xRs f z g1 g2 g3 g4 g5).1.2.1 = 0 ↔ (rR f z).2 = 0) ∧ ((rR f z).2 = 0 → (rR f z).1.2 = nrm (xL0 f z (0, 0, 0)) (xL1 f z (0, 0, 0)) (xL2 f z (0, 0, 0)) 1 0 0 (xRw f z g1).2.1 (xRs f z g1 g2 g3 g4 g5).2.1 (xRw f z g1).2.2 (xRs f z g1 g2 g3 g4 g5).2.2.1 (xRs f z g1 g2 g3 g4 g5).2.2.2.1 (xRs f z g1 g2 g3 g4 g5).2.2.2.2.1 (xRs f z g1 g2 g3 g4 g5).2.2.2.2.2) := by
  obtain ⟨a, b⟩ := xm_read hz hT g1 g2 g3 g4 g5
  refine ⟨?_, fun q => (b q).1⟩
  rcases a with ⟨a1, a2, -⟩ | ⟨a1, a2, -⟩
  · exact ⟨fun _ => a2, fun _ => a1⟩
  · exact ⟨fun q => absurd q a1, fun q => absurd (a2.symm.trans q) a1⟩
end TWOS
section RDOK
variable {f : Nat → Int32} {z : Nat}
theorem rngN {v L U : Int32} {l u : Nat} (hL : L.toInt = l) (hU : U.toInt = u) (h : ¬ (v < L ∨ U < v)) (hu : u < 2 ^ 30) : ∃ j : Nat, l ≤ j ∧ j ≤ u ∧ v = nI j := by
  have h1 : ¬ v < L := fun q => h (Or.inl q)
  have h2 : ¬ U < v := fun q => h (Or.inr q)
  rw [Int32.lt_iff_toInt_lt, hL] at h1
  rw [Int32.lt_iff_toInt_lt, hU] at h2
  obtain ⟨j, hj, rfl⟩ := nat_of (x := v) (n := u + 1) (by omega) (by omega) (by omega)
  rw [nI_toInt (by omega)] at h1
  exact ⟨j, by omega, by omega, rfl⟩
theorem mB_0 {r : MR} {k : MS → MR} (h : (mB r k).2 = 0) : r.2 = 0 ∧ mB r k = k r.1 := by
  unfold mB at h ⊢
  split at h
  · rename_i q
    exact ⟨q, if_pos q⟩
  · rename_i q
    exact absurd h q
theorem nRr_0 {lo hi c : Int32} {ix : Nat} {s : MS} (h : (nRr f z lo hi ix c s).2 = 0) : ∃ v : Int32, ¬ (v < lo ∨ hi < v) ∧ (nRr f z lo hi ix c s).1.2 = upd s.2 ix v := by
  have g : nGG f z lo hi c s.1 := by
    refine Decidable.byContradiction (fun q => ?_)
    have h2 : (nRr f z lo hi ix c s).2 = nE lo hi s.1 := if_neg q
    exact nE_nz _ _ _ (h2.symm.trans h)
  exact ⟨s.1.2.1, g.1.2, if_pos g.1⟩
theorem wR_0 {s : MS} (h : (wR f z s).2 = 0) : ¬ s.2 3 = 6 ∧ ∃ v : Int32, ¬ (v < 0 ∨ 4 < v) ∧ (wR f z s).1.2 = upd (upd s.2 3 (s.2 3 + 1)) (8 + (s.2 3).toNatClampNeg) v := by
  have g : wGG f z s := by
    refine Decidable.byContradiction (fun q => ?_)
    have h2 : (wR f z s).2 = wE f z s := if_neg q
    exact wE_nz _ _ _ (h2.symm.trans h)
  refine ⟨g.1.2, (uT f z s.1).2.1, g.2.1.2, ?_⟩
  show (wS f z s).2 = _
  unfold wS
  rw [if_pos g.1]
  exact if_pos g.2.1
theorem sR_0 {s : MS} (h : (sR f z s).2 = 0) : sG0 s ∧ ∃ v v2 : Int32, ¬ (v < 0 ∨ s.2 0 - 1 < v) ∧ ¬ (v2 < 1 ∨ 20 < v2) ∧ (sR f z s).1.2 = upd (upd (sRa s) (20 + (s.2 4).toNatClampNeg) v) (32 + (s.2 4).toNatClampNeg) v2 := by
  have g : sGG f z s := by
    refine Decidable.byContradiction (fun q => ?_)
    have h2 : (sR f z s).2 = sE f z s := if_neg q
    exact sE_nz _ _ _ (h2.symm.trans h)
  obtain ⟨g0, g1, g2⟩ := g
  refine ⟨g0, (uT f z s.1).2.1, (sUb f z s).2.1, g1.1.2, g2.1.2, ?_⟩
  have e1 : sRb f z s = upd (sRa s) (20 + (s.2 4).toNatClampNeg) (uT f z s.1).2.1 := if_pos g1.1
  show (sS f z s).2 = _
  unfold sS
  rw [if_pos g0, if_pos g1, ← e1]
  exact if_pos g2.1
theorem kindX_n {x : Int32} (h : ¬ kindX x = 0) : ∃ a : Nat, 1 ≤ a ∧ a ≤ 5 ∧ kindX x = nI a := by
  unfold kindX at h ⊢
  split
  · exact ⟨1, by decide, by decide, rfl⟩
  · split
    · exact ⟨2, by decide, by decide, rfl⟩
    · split
      · exact ⟨3, by decide, by decide, rfl⟩
      · split
        · exact ⟨4, by decide, by decide, rfl⟩
        · split
          · exact ⟨5, by decide, by decide, rfl⟩
          · rename_i h1 h2 h3 h4 h5
            rw [if_neg h1, if_neg h2, if_neg h3, if_neg h4, if_neg h5] at h
            exact absurd rfl h
theorem kdM_n {u : MU} (h : ¬ kdM u = 0) : ∃ a : Nat, 1 ≤ a ∧ a ≤ 5 ∧ kdM u = nI a := by
  unfold kdM at h ⊢
  split
  · rename_i q
    rw [if_pos q] at h
    exact kindX_n h
  · rename_i q
    rw [if_neg q] at h
    exact absurd rfl h
noncomputable def rdS (k : Nat) (row : RF) : Prop := ∃ (c m re w : Nat) (g1 g2 g3 g4 g5 : RF), row = nrm (nI c) (nI m) (nI re) 1 0 0 w k g1 g2 g3 g4 g5 ∧ (5 ≤ c ∧ c ≤ 15 ∧ m < c ∧ re ≤ 4 ∧ w ≤ 6 ∧ k ≤ 6) ∧ (∀ i : Nat, i < w → ∃ x : Nat, x ≤ 4 ∧ g1 i = nI x) ∧ (∀ i : Nat, i < k → ∃ a p q l : Nat, (g2 i = nI a ∧ g3 i = nI p ∧ g5 i = nI q ∧ g4 i = nI l) ∧ 1 ≤ a ∧ a ≤ 5 ∧ p < c ∧ q ≤ 2 ∧ 1 ≤ l ∧ l ≤ 20)
theorem lRd_0 (h : (lRd f z).2 = 0) : (lRc f z).2 = 0 ∧ lRd f z = nRr f z 0 4 2 59 (lRc f z).1 := mB_0 (r := lRc f z) (k := fun s => nRr f z 0 4 2 59 s) h
theorem lRc_0 (h : (lRc f z).2 = 0) : (lRb f z).2 = 0 ∧ lRc f z = nRr f z 0 ((lRb f z).1.2 0 - 1) 1 44 (lRb f z).1 := mB_0 (r := lRb f z) (k := fun s => nRr f z 0 (s.2 0 - 1) 1 44 s) h
theorem lRb_0 (h : (lRb f z).2 = 0) : (lRa f z).2 = 0 ∧ lRb f z = nRr f z 5 15 0 44 (lRa f z).1 := mB_0 (r := lRa f z) (k := fun s => nRr f z 5 15 0 44 s) h
theorem lRa_r : (lRa f z).1.2 = r0 := by
  unfold lRa kR
  rfl
theorem rd_law (h : (lRd f z).2 = 0) : rdS 0 (lRd f z).1.2 ∧ (lRd f z).1.2 3 = nI 0 := by
  obtain ⟨h1, e1⟩ := lRd_0 h
  obtain ⟨h3, e3⟩ := lRc_0 h1
  obtain ⟨h5, e5⟩ := lRb_0 h3
  have ra := lRa_r (f := f) (z := z)
  generalize lRd f z = D at h e1 ⊢
  generalize lRc f z = C at h1 e1 e3
  generalize lRb f z = B at h3 e3 e5
  generalize lRa f z = A at e5 ra
  rw [e1] at h
  rw [e3] at h1
  rw [e5] at h3
  obtain ⟨v2, b2, r2⟩ := nRr_0 h
  obtain ⟨v1, b1, r1⟩ := nRr_0 h1
  obtain ⟨v0, b0, r0_⟩ := nRr_0 h3
  rw [← e1] at r2
  rw [← e3] at r1
  rw [← e5] at r0_
  rw [ra] at r0_
  rw [r0_] at b1 r1
  rw [r1] at r2
  have e0 : upd r0 0 v0 0 = v0 := pk_us
  rw [e0] at b1
  obtain ⟨c, c1, c2, rfl⟩ := rngN (v := v0) (L := 5) (U := 15) (l := 5) (u := 15) rfl rfl b0 (by decide)
  have ec : nI c - 1 = nI (c - 1) := pk_sub (b := 1) (by omega)
  rw [ec] at b1
  obtain ⟨m, m1, m2, rfl⟩ := rngN (v := v1) (L := 0) (U := nI (c - 1)) (l := 0) (u := c - 1) rfl (nI_toInt (by omega)) b1 (by omega)
  obtain ⟨re, d1, d2, rfl⟩ := rngN (v := v2) (L := 0) (U := 4) (l := 0) (u := 4) rfl rfl b2 (by decide)
  have er := r2.trans (nrm_0 (g1 := fun _ => 0) (g2 := fun _ => 0) (g3 := fun _ => 0) (g4 := fun _ => 0) (g5 := fun _ => 0))
  exact ⟨⟨c, m, re, 0, _, _, _, _, _, er, ⟨c1, c2, by omega, d2, by decide, by decide⟩, fun i hi => absurd hi (Nat.not_lt_zero i), fun i hi => absurd hi (Nat.not_lt_zero i)⟩, (congrFun er 3).trans nrm3⟩
theorem rd_wind {s : MS} (hs : rdS 0 s.2) (h : (wR f z s).2 = 0) : rdS 0 (wR f z s).1.2 ∧ ∃ w : Nat, 1 ≤ w ∧ w ≤ 6 ∧ (wR f z s).1.2 3 = nI w := by
  obtain ⟨n6, v, b, e⟩ := wR_0 h
  obtain ⟨c, m, re, w, g1, g2, g3, g4, g5, er, B, W, S⟩ := hs
  obtain ⟨x, -, x2, rfl⟩ := rngN (v := v) (L := 0) (U := 4) (l := 0) (u := 4) rfl rfl b (by decide)
  have e3 : s.2 3 = nI w := by rw [er]; rfl
  have hw : w < 6 := by
    rcases Nat.lt_or_ge w 6 with q | q
    · exact q
    · have : w = 6 := by omega
      exact absurd (by rw [e3, this]; rfl) n6
  rw [e3, nI_clamp (by omega), er, nrm_w hw] at e
  refine ⟨⟨c, m, re, w + 1, _, _, _, _, _, e, ⟨B.1, B.2.1, B.2.2.1, B.2.2.2.1, by omega, B.2.2.2.2.2⟩, fun i hi => ?_, S⟩, w + 1, by omega, by omega, by rw [e]; rfl⟩
  by_cases q : i = w
  · rw [q, pk_us]
    exact ⟨x, x2, rfl⟩
  · rw [pk_un q]
    exact W i (by omega)
theorem rd_winds : ∀ (n : Nat) (r : MR), (r.2 = 0 → rdS 0 r.1.2 ∧ ∃ w : Nat, 1 ≤ w ∧ w ≤ 6 ∧ r.1.2 3 = nI w) → (wL f z n r).2 = 0 → rdS 0 (wL f z n r).1.2 ∧ ∃ w : Nat, 1 ≤ w ∧ w ≤ 6 ∧ (wL f z n r).1.2 3 = nI w
  | 0, _, hr, h => hr h
  | n + 1, r, hr, h => by
    by_cases q : wLg r
    · rw [wL_go (by omega) q] at h ⊢
      exact rd_winds n _ (fun h2 => rd_wind (hr q.1).1 h2) h
    · rw [wL_stop q] at h ⊢
      exact hr h
theorem rd_sound {s : MS} {k w : Nat} (hw1 : 1 ≤ w) (hs : rdS k s.2) (e3 : s.2 3 = nI w) (hw6 : w ≤ 6) (h : (sR f z s).2 = 0) : rdS (k + 1) (sR f z s).1.2 ∧ (sR f z s).1.2 3 = nI w := by
  obtain ⟨g0, v, v2, b, b2, e⟩ := sR_0 h
  obtain ⟨c, m, re, w_, g1, g2, g3, g4, g5, er, B, W, S⟩ := hs
  obtain ⟨a, a1, a2, ea⟩ := kdM_n g0.1
  have e4 : s.2 4 = nI k := by rw [er]; rfl
  have e0 : s.2 0 = nI c := by rw [er]; rfl
  have hk : k < 6 := by
    rcases Nat.lt_or_ge k 6 with q | q
    · exact q
    · have : k = 6 := by omega
      exact absurd (by rw [e4, this]; rfl) g0.2
  have ec : nI c - 1 = nI (c - 1) := pk_sub (b := 1) (by omega)
  rw [e0, ec] at b
  obtain ⟨p, -, p2, rfl⟩ := rngN (v := v) (L := 0) (U := nI (c - 1)) (l := 0) (u := c - 1) rfl (nI_toInt (by omega)) b (by omega)
  obtain ⟨l, l1, l2, rfl⟩ := rngN (v := v2) (L := 1) (U := 20) (l := 1) (u := 20) rfl rfl b2 (by decide)
  unfold sRa at e
  rw [e4, nI_clamp (by omega), ea, er, nrm_s hk] at e
  have ew : w_ = w := by
    rw [er] at e3
    exact (nI_eq (by omega) (by omega)).mp e3
  subst ew
  refine ⟨⟨c, m, re, w_, _, _, _, _, _, e, ⟨B.1, B.2.1, B.2.2.1, B.2.2.2.1, B.2.2.2.2.1, by omega⟩, W, fun i hi => ?_⟩, by rw [e]; rfl⟩
  by_cases q : i = k
  · rw [q, pk_us, pk_us, pk_us, pk_us]
    exact ⟨a, p, 0, l, ⟨rfl, rfl, rfl, rfl⟩, a1, a2, by omega, by decide, l1, l2⟩
  · rw [pk_un q, pk_un q, pk_un q, pk_un q]
    exact S i (by omega)
theorem rd_sounds {w : Nat} (hw1 : 1 ≤ w) (hw6 : w ≤ 6) : ∀ (n : Nat) (r : MR), (r.2 = 0 → ∃ k : Nat, 1 ≤ k ∧ rdS k r.1.2 ∧ r.1.2 3 = nI w) → (sL f z n r).2 = 0 → ∃ k : Nat, 1 ≤ k ∧ rdS k (sL f z n r).1.2 ∧ (sL f z n r).1.2 3 = nI w
  | 0, _, hr, h => hr h
  | n + 1, r, hr, h => by
    by_cases q : sLg r
    · rw [sL_go (by omega) q] at h ⊢
      refine rd_sounds hw1 hw6 n _ (fun h2 => ?_) h
      obtain ⟨k, -, k1, k2⟩ := hr q.1
      obtain ⟨a, b⟩ := rd_sound hw1 k1 k2 hw6 h2
      exact ⟨k + 1, by omega, a, b⟩
    · rw [sL_stop q] at h ⊢
      exact hr h
theorem rd_ok (h : (rR f z).2 = 0) : okN 999 (rR f z).1.2 := by
  have hW : (wL f z 6 (lRe f z)).2 = 0 → rdS 0 (wL f z 6 (lRe f z)).1.2 ∧ ∃ w : Nat, 1 ≤ w ∧ w ≤ 6 ∧ (wL f z 6 (lRe f z)).1.2 3 = nI w := by
    refine rd_winds 6 _ (fun h2 => ?_)
    obtain ⟨a, b⟩ := mB_0 (r := lRd f z) h2
    unfold lRe at h2 ⊢
    rw [b] at h2 ⊢
    exact rd_wind (rd_law a).1 h2
  have key : ∃ w : Nat, 1 ≤ w ∧ w ≤ 6 ∧ ∃ k : Nat, 1 ≤ k ∧ rdS k (rR f z).1.2 ∧ (rR f z).1.2 3 = nI w := by
    unfold rR at h ⊢
    generalize wL f z 6 (lRe f z) = r at h hW ⊢
    by_cases q : r.2 = 0
    · obtain ⟨a, w, w1, w2, w3⟩ := hW q
      have r4 : r.1.2 4 = 0 := by
        obtain ⟨c, m, re, w_, g1, g2, g3, g4, g5, er, -⟩ := a
        rw [er]
        rfl
      have g : sLg r := ⟨q, fun t => t.2 r4⟩
      rw [sL_go (by decide) g] at h ⊢
      refine ⟨w, w1, w2, rd_sounds w1 w2 6 _ (fun h2 => ?_) h⟩
      obtain ⟨x, y⟩ := rd_sound w1 a w3 w2 h2
      exact ⟨1, by decide, x, y⟩
    · rw [sL_stop (fun t => q t.1)] at h
      exact absurd h q
  obtain ⟨w, w1, w2, k, k1, ⟨c, m, re, w_, g1, g2, g3, g4, g5, er, B, W, S⟩, e3⟩ := key
  have ew : w_ = w := by
    rw [er] at e3
    exact (nI_eq (by omega) (by omega)).mp e3
  subst ew
  refine ⟨_, _, _, _, _, _, _, _, _, _, _, _, _, er, by decide, B.2.2.2.2.1, B.2.2.2.2.2, ?_⟩
  rw [er]
  exact okRow_of (ca := 1) (me := 0) ⟨rfl, rfl, rfl, rfl, rfl⟩ ⟨B.1, B.2.1, B.2.2.1, B.2.2.2.1, w1, k1, by decide, by decide, by decide⟩ B.2.2.2.2.1 B.2.2.2.2.2 W S
theorem ok_lev {Lv I0 I1 : RF} {An : Nat} {Ac : AC} (hs : okS Lv An Ac I0 I1) : okS (n_lev ((rR f z).2 = 0) (rR f z).1.2 Lv) (n_levN ((rR f z).2 = 0) An) (n_levA ((rR f z).2 = 0) Ac) I0 I1 := by
  unfold n_lev n_levN n_levA
  by_cases q : (rR f z).2 = 0
  · rw [if_pos q, if_pos q, if_pos q]
    exact ⟨Or.inr (rd_ok q), by decide, fun k hk => absurd hk (Nat.not_lt_zero k), hs.2.2.2.1, hs.2.2.2.2⟩
  · rw [if_neg q, if_neg q, if_neg q]
    exact hs
end RDOK

-- 40.play2_d
/-! by turns -/
noncomputable def tgC (r : RF) : RF := upd r 6 (1 - r 6)
noncomputable def nwI (r : RF) : Nat := 8 + (r 5).toNatClampNeg % (r 3).toNatClampNeg
noncomputable def tgW (r : RF) : RF := upd r (nwI r) (4 - r (nwI r))
noncomputable def cmb (b : Bool) (x y : Int32) : Int32 := if b = true then (if x < y then y else x) else (if y < x then y else x)
noncomputable def tgP (b : Bool) (r : RF) : RF := if b = true then tgC r else tgW r
noncomputable def btV (m : Nat) : Nat → Bool → RF → Int32
  | 0, _, r => mGo m r 7
  | n + 1, b, r => cmb b (btV m n (!b) r) (btV m n (!b) (tgP b r))
theorem sub_2 (a x : Int32) : a - (a - x) = x := by grind
theorem tw_2 {g1 : RF} {ww hh : Nat} : twX (twX g1 ww hh) ww hh = g1 := by
  unfold twX
  split
  · rfl
  · rename_i h
    funext q
    by_cases e : q = hh % ww
    · rw [e, pk_us, pk_us, sub_2]
    · rw [pk_un e, pk_un e]
section PLP
variable {v0 v1 v2 v3 v5 a b : Int32} {hh ww kk : Nat} {g1 g2 g3 g4 g5 f g : RF}
theorem pl_s (hN : okN 999 (nrm v0 v1 v2 v3 hh v5 ww kk g1 g2 g3 g4 g5)) (e1 : a = v3) (e2 : f = g1) : nrm v0 v1 v2 a hh v5 ww kk f g2 g3 g4 g5 = nrm v0 v1 v2 v3 hh v5 ww kk g1 g2 g3 g4 g5 := by rw [e1, e2]
theorem pl_c (hN : okN 999 (nrm v0 v1 v2 v3 hh v5 ww kk g1 g2 g3 g4 g5)) (e1 : a = v3) (e2 : f = g1) (e3 : b = 1 - a) : nrm v0 v1 v2 b hh v5 ww kk f g2 g3 g4 g5 = tgP true (nrm v0 v1 v2 v3 hh v5 ww kk g1 g2 g3 g4 g5) := by
  show _ = upd (nrm v0 v1 v2 v3 hh v5 ww kk g1 g2 g3 g4 g5) 6 (1 - nrm v0 v1 v2 v3 hh v5 ww kk g1 g2 g3 g4 g5 6)
  rw [nr6, nru6, e3, e1, e2]
theorem pl_w (hN : okN 999 (nrm v0 v1 v2 v3 hh v5 ww kk g1 g2 g3 g4 g5)) (hw : ww ≤ 6) (hk : kk ≤ 6) (hH : hh ≤ 999) (e1 : a = v3) (e2 : f = g1) (e3 : g = twX f ww hh) : nrm v0 v1 v2 a hh v5 ww kk g g2 g3 g4 g5 = tgP false (nrm v0 v1 v2 v3 hh v5 ww kk g1 g2 g3 g4 g5) := by
  obtain ⟨_, _, _, _, _, _, _, _, _, _, _, _, _, -, -, -, -, hr⟩ := hN
  obtain ⟨c, m, re, ca, me, -, B, -, -⟩ := okRow_X hr hw hk (by omega)
  have h1 : ¬ ww = 0 := by omega
  have hm : hh % ww < ww := Nat.mod_lt _ (by omega)
  have e5 : (nI hh).toNatClampNeg = hh := nI_clamp (by omega)
  have e6 : (nI ww).toNatClampNeg = ww := nI_clamp (by omega)
  have en : nwI (nrm v0 v1 v2 v3 hh v5 ww kk g1 g2 g3 g4 g5) = 8 + hh % ww := by
    unfold nwI
    rw [nr5, nr3, e5, e6]
  show _ = tgW (nrm v0 v1 v2 v3 hh v5 ww kk g1 g2 g3 g4 g5)
  unfold tgW
  rw [en, nrg1 hm hw, nrug1 hm hw, e1, e3, e2]
  unfold twX
  rw [if_neg h1]
end PLP
theorem tgC_ok {r : RF} (h : okN 999 r) : okN 999 (tgC r) := cap_ok h
theorem tgW_ok {r : RF} (h : okN 999 r) : okN 999 (tgW r) := by
  obtain ⟨v0, v1, v2, v3, hh, v5, ww, kk, g1, g2, g3, g4, g5, c, m, re, ca, me, rfl, a, b, kb, E, B, W, S⟩ := okN_X h
  have hm : hh % ww < ww := Nat.mod_lt _ (by omega)
  have e5 : (nI hh).toNatClampNeg = hh := nI_clamp (by omega)
  have e6 : (nI ww).toNatClampNeg = ww := nI_clamp (by omega)
  have en : nwI (nrm v0 v1 v2 v3 hh v5 ww kk g1 g2 g3 g4 g5) = 8 + hh % ww := by
    unfold nwI
    rw [nr5, nr3, e5, e6]
  obtain ⟨x, hx, ex⟩ := W _ hm
  unfold tgW
  rw [en, nrg1 hm b, ex, show (4 : Int32) - nI x = nI (4 - x) from pk_sub (a := 4) hx]
  exact ok_wnd h nr3 b hm (by omega)
theorem tgP_ok {r : RF} (b : Bool) (h : okN 999 r) : okN 999 (tgP b r) := by
  cases b
  · exact tgW_ok h
  · exact tgC_ok h
noncomputable def a_byt (r : RF) (n m : Int32) : Int32 := if r 0 = 0 then -1000002 else if (n < 0 ∨ 4 < n) ∨ (m < 1 ∨ 20 < m) then -1000001 else btV m.toNatClampNeg n.toNatClampNeg true r
theorem byt_0 {r : RF} {n m : Int32} (h : r 0 = 0) : (-1000002 : Int32) = a_byt r n m := by
  unfold a_byt
  rw [if_pos h]
theorem byt_n {r : RF} {n m : Int32} (h0 : ¬ r 0 = 0) (h : (n < 0 ∨ 4 < n) ∨ (m < 1 ∨ 20 < m)) : (-1000001 : Int32) = a_byt r n m := by
  unfold a_byt
  rw [if_neg h0, if_pos h]
theorem byt_g {r : RF} {n m : Nat} (h0 : ¬ r 0 = 0) (h : ¬ ((nI n < 0 ∨ 4 < nI n) ∨ (nI m < 1 ∨ 20 < nI m))) (hn : n ≤ 4) (hm : m ≤ 20) : a_byt r (nI n) (nI m) = btV m n true r := by
  have e1 : (nI n).toNatClampNeg = n := nI_clamp (by omega)
  have e2 : (nI m).toNatClampNeg = m := nI_clamp (by omega)
  unfold a_byt
  rw [if_neg h0, if_neg h, e1, e2]
theorem bt_0 {v0 v1 v2 v3 v5 r : Int32} {hh ww kk m : Nat} {g1 g2 g3 g4 g5 f1 f2 f3 f4 f5 : RF} {b : Bool} (hN : okN 999 (nrm v0 v1 v2 v3 hh v5 ww kk g1 g2 g3 g4 g5)) (hH : hh ≤ 999) (hw : ww ≤ 6) (hk : kk ≤ 6) (hm : m ≤ 20) (c1 : ∀ j : Nat, j < 6 → f1 j = g1 j) (c2 : ∀ j : Nat, j < 6 → f2 j = g2 j) (c3 : ∀ j : Nat, j < 6 → f3 j = g3 j) (c4 : ∀ j : Nat, j < 6 → f4 j = g4 j) (c5 : ∀ j : Nat, j < 6 → f5 j = g5 j) (e : r = (pmX v0 v1 v2 v3 f1 ww hh kk f2 m (v5, f3, f4, f5)).1) : r = btV m 0 b (nrm v0 v1 v2 v3 hh v5 ww kk g1 g2 g3 g4 g5) := by
  obtain ⟨_, _, _, _, _, _, _, _, _, _, _, _, _, -, -, -, -, hr⟩ := hN
  exact meal_X hr hw hk (by omega) c1 c2 c3 c4 c5 e
theorem pb_c {a b c d v : Int32} (e1 : d = 1 - c) (e2 : c = b) (e3 : b = 1 - a) (e4 : a = v) : d = v := by rw [e1, e2, e3, e4, sub_2]
theorem pb_w {a b c d v : RF} {ww hh : Nat} (e1 : d = twX c ww hh) (e2 : c = b) (e3 : b = twX a ww hh) (e4 : a = v) : d = v := by rw [e1, e2, e3, e4, tw_2]
theorem pb_0 {m n : Nat} {L R : RF} {x y v : Int32} (hx : x = btV m n true L) (hy : y = btV m n true R) (hR : R = tgP false L) (e : v = if y < x then y else x) : v = btV m (n + 1) false L := by
  rw [e, hx, hy, hR]
  rfl
theorem pb_1 {m n : Nat} {L R : RF} {x y v : Int32} (hx : x = btV m n false L) (hy : y = btV m n false R) (hR : R = tgP true L) (e : v = if x < y then y else x) : v = btV m (n + 1) true L := by
  rw [e, hx, hy, hR]
  rfl
theorem ct_e {r : Int32} {k t j : Nat} {R L : RF} (h : r = btV j k true R) (e : R = L) (hz : k = if 4 < t then 4 else t) (ht : t ≤ 4) : r = btV j t true L := by
  rw [if_neg (by omega)] at hz
  rw [h, e, hz]

