set_option maxHeartbeats 60000 in
theorem lf_X7_loose_1 {nv0 : Int32} {nv1 : Int32} {nv2 : Int32} {nv3 : Int32} {nv5 : Int32} {nhh : Nat} {nww : Nat} {nkk : Nat} {ng1 : Nat → Int32} {ng2 : Nat → Int32} {ng3 : Nat → Int32} {ng4 : Nat → Int32} {ng5 : Nat → Int32} {q : Nat} {az : Nat} {fb : Nat → Option Nat} {ad : Nat → Nat} {V : Nat → Nat → Int32} {k0 : Int32} {k1 : Int32} {k2 : Int32} (nhb : nhh ≤ 999) (nwb : nww ≤ 6) (nkb : nkk ≤ 6) (hLv : okLv (nrm nv0 nv1 nv2 nv3 nhh nv5 nww nkk ng1 ng2 ng3 ng4 ng5)) (hfb : ∀ i : Nat, i < 24 → fb i = some (ad i)) (hok : ∀ i : Nat, i < 24 → okL (V i)) (hq : q < 24) (haz : az ≤ 24) (f_1_0_0 : (k0 < 0 ∨ (nI nkk) ≤ k0)) : (nrm nv0 nv1 nv2 nv3 nhh nv5 nww nkk ng1 ng2 ng3 ng4 ng5) = n_loose (nrm nv0 nv1 nv2 nv3 nhh nv5 nww nkk ng1 ng2 ng3 ng4 ng5) k0 k1 k2 := by
  first
  | with_reducible exact lo_l (lo_ng (lo_g1 f_1_0_0))
  | with_reducible exact kz_n (lo_ng (lo_g1 f_1_0_0))
  | with_reducible exact kc_n (lo_ng (lo_g1 f_1_0_0))
  | with_reducible exact lo_a (lo_g1 f_1_0_0)
  | omega
set_option maxHeartbeats 60000 in
theorem lf_X7_loose_2 {nv0 : Int32} {nv1 : Int32} {nv2 : Int32} {nv3 : Int32} {nv5 : Int32} {nhh : Nat} {nww : Nat} {nkk : Nat} {ng1 : Nat → Int32} {ng2 : Nat → Int32} {ng3 : Nat → Int32} {ng4 : Nat → Int32} {ng5 : Nat → Int32} {q : Nat} {az : Nat} {fb : Nat → Option Nat} {ad : Nat → Nat} {V : Nat → Nat → Int32} {k0 : Int32} {k1 : Int32} {k2 : Int32} (nhb : nhh ≤ 999) (nwb : nww ≤ 6) (nkb : nkk ≤ 6) (hLv : okLv (nrm nv0 nv1 nv2 nv3 nhh nv5 nww nkk ng1 ng2 ng3 ng4 ng5)) (hfb : ∀ i : Nat, i < 24 → fb i = some (ad i)) (hok : ∀ i : Nat, i < 24 → okL (V i)) (hq : q < 24) (haz : az ≤ 24) (f_1_0_0 : (k0 < 0 ∨ (nI nkk) ≤ k0)) : az = kpN (gd_loose (nrm nv0 nv1 nv2 nv3 nhh nv5 nww nkk ng1 ng2 ng3 ng4 ng5) k0 k1 k2) az := by
  first
  | with_reducible exact lo_l (lo_ng (lo_g1 f_1_0_0))
  | with_reducible exact kz_n (lo_ng (lo_g1 f_1_0_0))
  | with_reducible exact kc_n (lo_ng (lo_g1 f_1_0_0))
  | with_reducible exact lo_a (lo_g1 f_1_0_0)
  | omega
set_option maxHeartbeats 60000 in
theorem lf_X7_loose_3 {nv0 : Int32} {nv1 : Int32} {nv2 : Int32} {nv3 : Int32} {nv5 : Int32} {nhh : Nat} {nww : Nat} {nkk : Nat} {ng1 : Nat → Int32} {ng2 : Nat → Int32} {ng3 : Nat → Int32} {ng4 : Nat → Int32} {ng5 : Nat → Int32} {q : Nat} {az : Nat} {fb : Nat → Option Nat} {ad : Nat → Nat} {V : Nat → Nat → Int32} {G : Nat → Nat → Nat → Int32} {k0 : Int32} {k1 : Int32} {k2 : Int32} (nhb : nhh ≤ 999) (nwb : nww ≤ 6) (nkb : nkk ≤ 6) (hLv : okLv (nrm nv0 nv1 nv2 nv3 nhh nv5 nww nkk ng1 ng2 ng3 ng4 ng5)) (hfb : ∀ i : Nat, i < 24 → fb i = some (ad i)) (hok : ∀ i : Nat, i < 24 → okL (V i)) (hq : q < 24) (haz : az ≤ 24) (f_1_0_0 : (k0 < 0 ∨ (nI nkk) ≤ k0)) : acX q az V G = kpA (gd_loose (nrm nv0 nv1 nv2 nv3 nhh nv5 nww nkk ng1 ng2 ng3 ng4 ng5) k0 k1 k2) (nrm nv0 nv1 nv2 nv3 nhh nv5 nww nkk ng1 ng2 ng3 ng4 ng5) az (acX q az V G) := by
  first
  | with_reducible exact lo_l (lo_ng (lo_g1 f_1_0_0))
  | with_reducible exact kz_n (lo_ng (lo_g1 f_1_0_0))
  | with_reducible exact kc_n (lo_ng (lo_g1 f_1_0_0))
  | with_reducible exact lo_a (lo_g1 f_1_0_0)
  | omega
set_option maxHeartbeats 60000 in
theorem lf_X7_loose_4 {nv0 : Int32} {nv1 : Int32} {nv2 : Int32} {nv3 : Int32} {nv5 : Int32} {nhh : Nat} {nww : Nat} {nkk : Nat} {ng1 : Nat → Int32} {ng2 : Nat → Int32} {ng3 : Nat → Int32} {ng4 : Nat → Int32} {ng5 : Nat → Int32} {q : Nat} {az : Nat} {fb : Nat → Option Nat} {ad : Nat → Nat} {V : Nat → Nat → Int32} {k0 : Int32} {k1 : Int32} {k2 : Int32} (nhb : nhh ≤ 999) (nwb : nww ≤ 6) (nkb : nkk ≤ 6) (hLv : okLv (nrm nv0 nv1 nv2 nv3 nhh nv5 nww nkk ng1 ng2 ng3 ng4 ng5)) (hfb : ∀ i : Nat, i < 24 → fb i = some (ad i)) (hok : ∀ i : Nat, i < 24 → okL (V i)) (hq : q < 24) (haz : az ≤ 24) (f_1_0_0 : (k0 < 0 ∨ (nI nkk) ≤ k0)) : (-1000001) = (a_loose (nrm nv0 nv1 nv2 nv3 nhh nv5 nww nkk ng1 ng2 ng3 ng4 ng5) k0 k1 k2) := by
  first
  | with_reducible exact lo_l (lo_ng (lo_g1 f_1_0_0))
  | with_reducible exact kz_n (lo_ng (lo_g1 f_1_0_0))
  | with_reducible exact kc_n (lo_ng (lo_g1 f_1_0_0))
  | with_reducible exact lo_a (lo_g1 f_1_0_0)
  | omega
set_option maxHeartbeats 60000 in
theorem lf_X7_loose_5 {nv0 : Int32} {nv1 : Int32} {nv2 : Int32} {nv3 : Int32} {nv5 : Int32} {nhh : Nat} {nww : Nat} {nkk : Nat} {ng1 : Nat → Int32} {ng2 : Nat → Int32} {ng3 : Nat → Int32} {ng4 : Nat → Int32} {ng5 : Nat → Int32} {q : Nat} {az : Nat} {fb : Nat → Option Nat} {ad : Nat → Nat} {V : Nat → Nat → Int32} {k1 : Int32} {k2 : Int32} {j_1 : Nat} (nhb : nhh ≤ 999) (nwb : nww ≤ 6) (nkb : nkk ≤ 6) (hLv : okLv (nrm nv0 nv1 nv2 nv3 nhh nv5 nww nkk ng1 ng2 ng3 ng4 ng5)) (hfb : ∀ i : Nat, i < 24 → fb i = some (ad i)) (hok : ∀ i : Nat, i < 24 → okL (V i)) (hq : q < 24) (haz : az ≤ 24) (hj_1 : j_1 < nkk) (f_5_0_0 : (k1 < 0 ∨ nv0 ≤ k1)) : (nrm nv0 nv1 nv2 nv3 nhh nv5 nww nkk ng1 ng2 ng3 ng4 ng5) = n_loose (nrm nv0 nv1 nv2 nv3 nhh nv5 nww nkk ng1 ng2 ng3 ng4 ng5) (nI j_1) k1 k2 := by
  first
  | with_reducible exact lo_l (lo_ng (lo_g2 f_5_0_0))
  | with_reducible exact kz_n (lo_ng (lo_g2 f_5_0_0))
  | with_reducible exact kc_n (lo_ng (lo_g2 f_5_0_0))
  | with_reducible exact lo_a (lo_g2 f_5_0_0)
  | omega
set_option maxHeartbeats 60000 in
theorem lf_X7_loose_6 {nv0 : Int32} {nv1 : Int32} {nv2 : Int32} {nv3 : Int32} {nv5 : Int32} {nhh : Nat} {nww : Nat} {nkk : Nat} {ng1 : Nat → Int32} {ng2 : Nat → Int32} {ng3 : Nat → Int32} {ng4 : Nat → Int32} {ng5 : Nat → Int32} {q : Nat} {az : Nat} {fb : Nat → Option Nat} {ad : Nat → Nat} {V : Nat → Nat → Int32} {k1 : Int32} {k2 : Int32} {j_1 : Nat} (nhb : nhh ≤ 999) (nwb : nww ≤ 6) (nkb : nkk ≤ 6) (hLv : okLv (nrm nv0 nv1 nv2 nv3 nhh nv5 nww nkk ng1 ng2 ng3 ng4 ng5)) (hfb : ∀ i : Nat, i < 24 → fb i = some (ad i)) (hok : ∀ i : Nat, i < 24 → okL (V i)) (hq : q < 24) (haz : az ≤ 24) (hj_1 : j_1 < nkk) (f_5_0_0 : (k1 < 0 ∨ nv0 ≤ k1)) : az = kpN (gd_loose (nrm nv0 nv1 nv2 nv3 nhh nv5 nww nkk ng1 ng2 ng3 ng4 ng5) (nI j_1) k1 k2) az := by
  first
  | with_reducible exact lo_l (lo_ng (lo_g2 f_5_0_0))
  | with_reducible exact kz_n (lo_ng (lo_g2 f_5_0_0))
  | with_reducible exact kc_n (lo_ng (lo_g2 f_5_0_0))
  | with_reducible exact lo_a (lo_g2 f_5_0_0)
  | omega
set_option maxHeartbeats 60000 in
theorem lf_X7_loose_7 {nv0 : Int32} {nv1 : Int32} {nv2 : Int32} {nv3 : Int32} {nv5 : Int32} {nhh : Nat} {nww : Nat} {nkk : Nat} {ng1 : Nat → Int32} {ng2 : Nat → Int32} {ng3 : Nat → Int32} {ng4 : Nat → Int32} {ng5 : Nat → Int32} {q : Nat} {az : Nat} {fb : Nat → Option Nat} {ad : Nat → Nat} {V : Nat → Nat → Int32} {G : Nat → Nat → Nat → Int32} {k1 : Int32} {k2 : Int32} {j_1 : Nat} (nhb : nhh ≤ 999) (nwb : nww ≤ 6) (nkb : nkk ≤ 6) (hLv : okLv (nrm nv0 nv1 nv2 nv3 nhh nv5 nww nkk ng1 ng2 ng3 ng4 ng5)) (hfb : ∀ i : Nat, i < 24 → fb i = some (ad i)) (hok : ∀ i : Nat, i < 24 → okL (V i)) (hq : q < 24) (haz : az ≤ 24) (hj_1 : j_1 < nkk) (f_5_0_0 : (k1 < 0 ∨ nv0 ≤ k1)) : acX q az V G = kpA (gd_loose (nrm nv0 nv1 nv2 nv3 nhh nv5 nww nkk ng1 ng2 ng3 ng4 ng5) (nI j_1) k1 k2) (nrm nv0 nv1 nv2 nv3 nhh nv5 nww nkk ng1 ng2 ng3 ng4 ng5) az (acX q az V G) := by
  first
  | with_reducible exact lo_l (lo_ng (lo_g2 f_5_0_0))
  | with_reducible exact kz_n (lo_ng (lo_g2 f_5_0_0))
  | with_reducible exact kc_n (lo_ng (lo_g2 f_5_0_0))
  | with_reducible exact lo_a (lo_g2 f_5_0_0)
  | omega
set_option maxHeartbeats 60000 in
theorem lf_X7_loose_8 {nv0 : Int32} {nv1 : Int32} {nv2 : Int32} {nv3 : Int32} {nv5 : Int32} {nhh : Nat} {nww : Nat} {nkk : Nat} {ng1 : Nat → Int32} {ng2 : Nat → Int32} {ng3 : Nat → Int32} {ng4 : Nat → Int32} {ng5 : Nat → Int32} {q : Nat} {az : Nat} {fb : Nat → Option Nat} {ad : Nat → Nat} {V : Nat → Nat → Int32} {k1 : Int32} {k2 : Int32} {j_1 : Nat} (nhb : nhh ≤ 999) (nwb : nww ≤ 6) (nkb : nkk ≤ 6) (hLv : okLv (nrm nv0 nv1 nv2 nv3 nhh nv5 nww nkk ng1 ng2 ng3 ng4 ng5)) (hfb : ∀ i : Nat, i < 24 → fb i = some (ad i)) (hok : ∀ i : Nat, i < 24 → okL (V i)) (hq : q < 24) (haz : az ≤ 24) (hj_1 : j_1 < nkk) (f_5_0_0 : (k1 < 0 ∨ nv0 ≤ k1)) : (-1000001) = (a_loose (nrm nv0 nv1 nv2 nv3 nhh nv5 nww nkk ng1 ng2 ng3 ng4 ng5) (nI j_1) k1 k2) := by
  first
  | with_reducible exact lo_l (lo_ng (lo_g2 f_5_0_0))
  | with_reducible exact kz_n (lo_ng (lo_g2 f_5_0_0))
  | with_reducible exact kc_n (lo_ng (lo_g2 f_5_0_0))
  | with_reducible exact lo_a (lo_g2 f_5_0_0)
  | omega
set_option maxHeartbeats 60000 in
theorem lf_X7_loose_9 {nv0 : Int32} {nv1 : Int32} {nv2 : Int32} {nv3 : Int32} {nv5 : Int32} {nhh : Nat} {nww : Nat} {nkk : Nat} {ng1 : Nat → Int32} {ng2 : Nat → Int32} {ng3 : Nat → Int32} {ng4 : Nat → Int32} {ng5 : Nat → Int32} {q : Nat} {az : Nat} {fb : Nat → Option Nat} {ad : Nat → Nat} {V : Nat → Nat → Int32} {k1 : Int32} {k2 : Int32} {j_1 : Nat} (nhb : nhh ≤ 999) (nwb : nww ≤ 6) (nkb : nkk ≤ 6) (hLv : okLv (nrm nv0 nv1 nv2 nv3 nhh nv5 nww nkk ng1 ng2 ng3 ng4 ng5)) (hfb : ∀ i : Nat, i < 24 → fb i = some (ad i)) (hok : ∀ i : Nat, i < 24 → okL (V i)) (hq : q < 24) (haz : az ≤ 24) (hj_1 : j_1 < nkk) (f_5_1_0 : ¬ k1 < 0) (f_5_1_1 : ¬ nv0 ≤ k1) (c_8 : k2 < 1) : (nrm nv0 nv1 nv2 nv3 nhh nv5 nww nkk ng1 ng2 ng3 ng4 ng5) = n_loose (nrm nv0 nv1 nv2 nv3 nhh nv5 nww nkk ng1 ng2 ng3 ng4 ng5) (nI j_1) k1 k2 := by
  first
  | with_reducible exact lo_l (lo_ng (lo_g3 c_8))
  | with_reducible exact kz_n (lo_ng (lo_g3 c_8))
  | with_reducible exact kc_n (lo_ng (lo_g3 c_8))
  | with_reducible exact lo_a (lo_g3 c_8)
  | omega
set_option maxHeartbeats 60000 in
theorem lf_X7_loose_10 {nv0 : Int32} {nv1 : Int32} {nv2 : Int32} {nv3 : Int32} {nv5 : Int32} {nhh : Nat} {nww : Nat} {nkk : Nat} {ng1 : Nat → Int32} {ng2 : Nat → Int32} {ng3 : Nat → Int32} {ng4 : Nat → Int32} {ng5 : Nat → Int32} {q : Nat} {az : Nat} {fb : Nat → Option Nat} {ad : Nat → Nat} {V : Nat → Nat → Int32} {k1 : Int32} {k2 : Int32} {j_1 : Nat} (nhb : nhh ≤ 999) (nwb : nww ≤ 6) (nkb : nkk ≤ 6) (hLv : okLv (nrm nv0 nv1 nv2 nv3 nhh nv5 nww nkk ng1 ng2 ng3 ng4 ng5)) (hfb : ∀ i : Nat, i < 24 → fb i = some (ad i)) (hok : ∀ i : Nat, i < 24 → okL (V i)) (hq : q < 24) (haz : az ≤ 24) (hj_1 : j_1 < nkk) (f_5_1_0 : ¬ k1 < 0) (f_5_1_1 : ¬ nv0 ≤ k1) (c_8 : k2 < 1) : az = kpN (gd_loose (nrm nv0 nv1 nv2 nv3 nhh nv5 nww nkk ng1 ng2 ng3 ng4 ng5) (nI j_1) k1 k2) az := by
  first
  | with_reducible exact lo_l (lo_ng (lo_g3 c_8))
  | with_reducible exact kz_n (lo_ng (lo_g3 c_8))
  | with_reducible exact kc_n (lo_ng (lo_g3 c_8))
  | with_reducible exact lo_a (lo_g3 c_8)
  | omega
set_option maxHeartbeats 60000 in
theorem lf_X7_loose_11 {nv0 : Int32} {nv1 : Int32} {nv2 : Int32} {nv3 : Int32} {nv5 : Int32} {nhh : Nat} {nww : Nat} {nkk : Nat} {ng1 : Nat → Int32} {ng2 : Nat → Int32} {ng3 : Nat → Int32} {ng4 : Nat → Int32} {ng5 : Nat → Int32} {q : Nat} {az : Nat} {fb : Nat → Option Nat} {ad : Nat → Nat} {V : Nat → Nat → Int32} {G : Nat → Nat → Nat → Int32} {k1 : Int32} {k2 : Int32} {j_1 : Nat} (nhb : nhh ≤ 999) (nwb : nww ≤ 6) (nkb : nkk ≤ 6) (hLv : okLv (nrm nv0 nv1 nv2 nv3 nhh nv5 nww nkk ng1 ng2 ng3 ng4 ng5)) (hfb : ∀ i : Nat, i < 24 → fb i = some (ad i)) (hok : ∀ i : Nat, i < 24 → okL (V i)) (hq : q < 24) (haz : az ≤ 24) (hj_1 : j_1 < nkk) (f_5_1_0 : ¬ k1 < 0) (f_5_1_1 : ¬ nv0 ≤ k1) (c_8 : k2 < 1) : acX q az V G = kpA (gd_loose (nrm nv0 nv1 nv2 nv3 nhh nv5 nww nkk ng1 ng2 ng3 ng4 ng5) (nI j_1) k1 k2) (nrm nv0 nv1 nv2 nv3 nhh nv5 nww nkk ng1 ng2 ng3 ng4 ng5) az (acX q az V G) := by
  first
  | with_reducible exact lo_l (lo_ng (lo_g3 c_8))
  | with_reducible exact kz_n (lo_ng (lo_g3 c_8))
  | with_reducible exact kc_n (lo_ng (lo_g3 c_8))
  | with_reducible exact lo_a (lo_g3 c_8)
  | omega
set_option maxHeartbeats 60000 in
theorem lf_X7_loose_12 {nv0 : Int32} {nv1 : Int32} {nv2 : Int32} {nv3 : Int32} {nv5 : Int32} {nhh : Nat} {nww : Nat} {nkk : Nat} {ng1 : Nat → Int32} {ng2 : Nat → Int32} {ng3 : Nat → Int32} {ng4 : Nat → Int32} {ng5 : Nat → Int32} {q : Nat} {az : Nat} {fb : Nat → Option Nat} {ad : Nat → Nat} {V : Nat → Nat → Int32} {k1 : Int32} {k2 : Int32} {j_1 : Nat} (nhb : nhh ≤ 999) (nwb : nww ≤ 6) (nkb : nkk ≤ 6) (hLv : okLv (nrm nv0 nv1 nv2 nv3 nhh nv5 nww nkk ng1 ng2 ng3 ng4 ng5)) (hfb : ∀ i : Nat, i < 24 → fb i = some (ad i)) (hok : ∀ i : Nat, i < 24 → okL (V i)) (hq : q < 24) (haz : az ≤ 24) (hj_1 : j_1 < nkk) (f_5_1_0 : ¬ k1 < 0) (f_5_1_1 : ¬ nv0 ≤ k1) (c_8 : k2 < 1) : (-1000001) = (a_loose (nrm nv0 nv1 nv2 nv3 nhh nv5 nww nkk ng1 ng2 ng3 ng4 ng5) (nI j_1) k1 k2) := by
  first
  | with_reducible exact lo_l (lo_ng (lo_g3 c_8))
  | with_reducible exact kz_n (lo_ng (lo_g3 c_8))
  | with_reducible exact kc_n (lo_ng (lo_g3 c_8))
  | with_reducible exact lo_a (lo_g3 c_8)
  | omega
set_option maxHeartbeats 60000 in
theorem lf_X7_loose_13 {nv0 : Int32} {nv1 : Int32} {nv2 : Int32} {nv3 : Int32} {nv5 : Int32} {nhh : Nat} {nww : Nat} {nkk : Nat} {ng1 : Nat → Int32} {ng2 : Nat → Int32} {ng3 : Nat → Int32} {ng4 : Nat → Int32} {ng5 : Nat → Int32} {q : Nat} {az : Nat} {fb : Nat → Option Nat} {ad : Nat → Nat} {V : Nat → Nat → Int32} {G : Nat → Nat → Nat → Int32} {k1 : Int32} {k2 : Int32} {j_1 : Nat} {Vn_12 : Nat → Nat → Int32} {Gn_12 : Nat → Nat → Nat → Int32} {qn_12 : Nat} {zn_12 : Nat} {g3n_13 : Nat → Int32} {g4n_13 : Nat → Int32} {g5n_13 : Nat → Int32} {r_14 : Int32} (nhb : nhh ≤ 999) (nwb : nww ≤ 6) (nkb : nkk ≤ 6) (hLv : okLv (nrm nv0 nv1 nv2 nv3 nhh nv5 nww nkk ng1 ng2 ng3 ng4 ng5)) (hfb : ∀ i : Nat, i < 24 → fb i = some (ad i)) (hok : ∀ i : Nat, i < 24 → okL (V i)) (hq : q < 24) (haz : az ≤ 24) (hj_1 : j_1 < nkk) (f_5_1_0 : ¬ k1 < 0) (f_5_1_1 : ¬ nv0 ≤ k1) (c_8 : ¬ (k2 < 1)) (c_9 : k2 ≤ 20) (f_10_0_0 : ¬ ng5 j_1 = 0) (hF_12_0 : (∀ i : Nat, i < 24 → okL (Vn_12 i))) (hF_12_1 : qn_12 < 24) (hF_12_2 : zn_12 ≤ 24) (hF_12_3 : nrV (Vn_12 q) (Gn_12 q) = (nrm nv0 nv1 nv2 nv3 nhh nv5 nww nkk ng1 ng2 ng3 ng4 ng5)) (hF_12_4 : (∀ i : Nat, i < 24 → i ≠ q → nrV (Vn_12 i) (Gn_12 i) = nrV (V i) (G i))) (hF_12_5 : qn_12 = (q + 1) % 24) (hF_12_6 : zn_12 = ntN az) (hF_13_0 : g3n_13 = upd ng3 j_1 k1) (hF_13_1 : g4n_13 = upd ng4 j_1 k2) (hF_13_2 : g5n_13 = upd ng5 j_1 0) (h_14 : r_14 = (thR g5n_13 0 nkk)) : (nrm nv0 nv1 nv2 nv3 nhh nv5 nww nkk ng1 ng2 g3n_13 g4n_13 g5n_13) = n_loose (nrm nv0 nv1 nv2 nv3 nhh nv5 nww nkk ng1 ng2 ng3 ng4 ng5) (nI j_1) k1 k2 := by
  first
  | with_reducible exact lo_l (lo_ng (lo_g3 c_8))
  | with_reducible exact kz_n (lo_ng (lo_g3 c_8))
  | with_reducible exact kc_n (lo_ng (lo_g3 c_8))
  | with_reducible exact lo_a (lo_g3 c_8)
  | with_reducible exact lo_l (lo_ng (lo_g4 c_9))
  | with_reducible exact kz_n (lo_ng (lo_g4 c_9))
  | with_reducible exact kc_n (lo_ng (lo_g4 c_9))
  | with_reducible exact lo_a (lo_g4 c_9)
  | with_reducible exact lo_L hj_1 nkb (lo_q hj_1 nkb (lo_p hj_1 nkb f_5_1_0 f_5_1_1 c_8 c_9) f_10_0_0) hF_13_0 hF_13_1 hF_13_2
  | with_reducible exact kz_p (lo_q hj_1 nkb (lo_p hj_1 nkb f_5_1_0 f_5_1_1 c_8 c_9) f_10_0_0) hF_12_6
  | with_reducible exact kc_p (lo_q hj_1 nkb (lo_p hj_1 nkb f_5_1_0 f_5_1_1 c_8 c_9) f_10_0_0) hq haz hF_12_3 hF_12_4 hF_12_5 hF_12_6
  | with_reducible exact lo_A hj_1 nkb (lo_q hj_1 nkb (lo_p hj_1 nkb f_5_1_0 f_5_1_1 c_8 c_9) f_10_0_0) hF_13_0 hF_13_1 hF_13_2 h_14
  | omega
set_option maxHeartbeats 60000 in
theorem lf_X7_loose_14 {nv0 : Int32} {nv1 : Int32} {nv2 : Int32} {nv3 : Int32} {nv5 : Int32} {nhh : Nat} {nww : Nat} {nkk : Nat} {ng1 : Nat → Int32} {ng2 : Nat → Int32} {ng3 : Nat → Int32} {ng4 : Nat → Int32} {ng5 : Nat → Int32} {q : Nat} {az : Nat} {fb : Nat → Option Nat} {ad : Nat → Nat} {V : Nat → Nat → Int32} {G : Nat → Nat → Nat → Int32} {k1 : Int32} {k2 : Int32} {j_1 : Nat} {Vn_12 : Nat → Nat → Int32} {Gn_12 : Nat → Nat → Nat → Int32} {qn_12 : Nat} {zn_12 : Nat} {g3n_13 : Nat → Int32} {g4n_13 : Nat → Int32} {g5n_13 : Nat → Int32} {r_14 : Int32} (nhb : nhh ≤ 999) (nwb : nww ≤ 6) (nkb : nkk ≤ 6) (hLv : okLv (nrm nv0 nv1 nv2 nv3 nhh nv5 nww nkk ng1 ng2 ng3 ng4 ng5)) (hfb : ∀ i : Nat, i < 24 → fb i = some (ad i)) (hok : ∀ i : Nat, i < 24 → okL (V i)) (hq : q < 24) (haz : az ≤ 24) (hj_1 : j_1 < nkk) (f_5_1_0 : ¬ k1 < 0) (f_5_1_1 : ¬ nv0 ≤ k1) (c_8 : ¬ (k2 < 1)) (c_9 : k2 ≤ 20) (f_10_0_0 : ¬ ng5 j_1 = 0) (hF_12_0 : (∀ i : Nat, i < 24 → okL (Vn_12 i))) (hF_12_1 : qn_12 < 24) (hF_12_2 : zn_12 ≤ 24) (hF_12_3 : nrV (Vn_12 q) (Gn_12 q) = (nrm nv0 nv1 nv2 nv3 nhh nv5 nww nkk ng1 ng2 ng3 ng4 ng5)) (hF_12_4 : (∀ i : Nat, i < 24 → i ≠ q → nrV (Vn_12 i) (Gn_12 i) = nrV (V i) (G i))) (hF_12_5 : qn_12 = (q + 1) % 24) (hF_12_6 : zn_12 = ntN az) (hF_13_0 : g3n_13 = upd ng3 j_1 k1) (hF_13_1 : g4n_13 = upd ng4 j_1 k2) (hF_13_2 : g5n_13 = upd ng5 j_1 0) (h_14 : r_14 = (thR g5n_13 0 nkk)) : zn_12 = kpN (gd_loose (nrm nv0 nv1 nv2 nv3 nhh nv5 nww nkk ng1 ng2 ng3 ng4 ng5) (nI j_1) k1 k2) az := by
  first
  | with_reducible exact lo_l (lo_ng (lo_g3 c_8))
  | with_reducible exact kz_n (lo_ng (lo_g3 c_8))
  | with_reducible exact kc_n (lo_ng (lo_g3 c_8))
  | with_reducible exact lo_a (lo_g3 c_8)
  | with_reducible exact lo_l (lo_ng (lo_g4 c_9))
  | with_reducible exact kz_n (lo_ng (lo_g4 c_9))
  | with_reducible exact kc_n (lo_ng (lo_g4 c_9))
  | with_reducible exact lo_a (lo_g4 c_9)
  | with_reducible exact lo_L hj_1 nkb (lo_q hj_1 nkb (lo_p hj_1 nkb f_5_1_0 f_5_1_1 c_8 c_9) f_10_0_0) hF_13_0 hF_13_1 hF_13_2
  | with_reducible exact kz_p (lo_q hj_1 nkb (lo_p hj_1 nkb f_5_1_0 f_5_1_1 c_8 c_9) f_10_0_0) hF_12_6
  | with_reducible exact kc_p (lo_q hj_1 nkb (lo_p hj_1 nkb f_5_1_0 f_5_1_1 c_8 c_9) f_10_0_0) hq haz hF_12_3 hF_12_4 hF_12_5 hF_12_6
  | with_reducible exact lo_A hj_1 nkb (lo_q hj_1 nkb (lo_p hj_1 nkb f_5_1_0 f_5_1_1 c_8 c_9) f_10_0_0) hF_13_0 hF_13_1 hF_13_2 h_14
  | omega
set_option maxHeartbeats 60000 in
theorem lf_X7_loose_15 {nv0 : Int32} {nv1 : Int32} {nv2 : Int32} {nv3 : Int32} {nv5 : Int32} {nhh : Nat} {nww : Nat} {nkk : Nat} {ng1 : Nat → Int32} {ng2 : Nat → Int32} {ng3 : Nat → Int32} {ng4 : Nat → Int32} {ng5 : Nat → Int32} {q : Nat} {az : Nat} {fb : Nat → Option Nat} {ad : Nat → Nat} {V : Nat → Nat → Int32} {G : Nat → Nat → Nat → Int32} {k1 : Int32} {k2 : Int32} {j_1 : Nat} {Vn_12 : Nat → Nat → Int32} {Gn_12 : Nat → Nat → Nat → Int32} {qn_12 : Nat} {zn_12 : Nat} {g3n_13 : Nat → Int32} {g4n_13 : Nat → Int32} {g5n_13 : Nat → Int32} {r_14 : Int32} (nhb : nhh ≤ 999) (nwb : nww ≤ 6) (nkb : nkk ≤ 6) (hLv : okLv (nrm nv0 nv1 nv2 nv3 nhh nv5 nww nkk ng1 ng2 ng3 ng4 ng5)) (hfb : ∀ i : Nat, i < 24 → fb i = some (ad i)) (hok : ∀ i : Nat, i < 24 → okL (V i)) (hq : q < 24) (haz : az ≤ 24) (hj_1 : j_1 < nkk) (f_5_1_0 : ¬ k1 < 0) (f_5_1_1 : ¬ nv0 ≤ k1) (c_8 : ¬ (k2 < 1)) (c_9 : k2 ≤ 20) (f_10_0_0 : ¬ ng5 j_1 = 0) (hF_12_0 : (∀ i : Nat, i < 24 → okL (Vn_12 i))) (hF_12_1 : qn_12 < 24) (hF_12_2 : zn_12 ≤ 24) (hF_12_3 : nrV (Vn_12 q) (Gn_12 q) = (nrm nv0 nv1 nv2 nv3 nhh nv5 nww nkk ng1 ng2 ng3 ng4 ng5)) (hF_12_4 : (∀ i : Nat, i < 24 → i ≠ q → nrV (Vn_12 i) (Gn_12 i) = nrV (V i) (G i))) (hF_12_5 : qn_12 = (q + 1) % 24) (hF_12_6 : zn_12 = ntN az) (hF_13_0 : g3n_13 = upd ng3 j_1 k1) (hF_13_1 : g4n_13 = upd ng4 j_1 k2) (hF_13_2 : g5n_13 = upd ng5 j_1 0) (h_14 : r_14 = (thR g5n_13 0 nkk)) : acX qn_12 zn_12 Vn_12 Gn_12 = kpA (gd_loose (nrm nv0 nv1 nv2 nv3 nhh nv5 nww nkk ng1 ng2 ng3 ng4 ng5) (nI j_1) k1 k2) (nrm nv0 nv1 nv2 nv3 nhh nv5 nww nkk ng1 ng2 ng3 ng4 ng5) az (acX q az V G) := by
  first
  | with_reducible exact lo_l (lo_ng (lo_g3 c_8))
  | with_reducible exact kz_n (lo_ng (lo_g3 c_8))
  | with_reducible exact kc_n (lo_ng (lo_g3 c_8))
  | with_reducible exact lo_a (lo_g3 c_8)
  | with_reducible exact lo_l (lo_ng (lo_g4 c_9))
  | with_reducible exact kz_n (lo_ng (lo_g4 c_9))
  | with_reducible exact kc_n (lo_ng (lo_g4 c_9))
  | with_reducible exact lo_a (lo_g4 c_9)
  | with_reducible exact lo_L hj_1 nkb (lo_q hj_1 nkb (lo_p hj_1 nkb f_5_1_0 f_5_1_1 c_8 c_9) f_10_0_0) hF_13_0 hF_13_1 hF_13_2
  | with_reducible exact kz_p (lo_q hj_1 nkb (lo_p hj_1 nkb f_5_1_0 f_5_1_1 c_8 c_9) f_10_0_0) hF_12_6
  | with_reducible exact kc_p (lo_q hj_1 nkb (lo_p hj_1 nkb f_5_1_0 f_5_1_1 c_8 c_9) f_10_0_0) hq haz hF_12_3 hF_12_4 hF_12_5 hF_12_6
  | with_reducible exact lo_A hj_1 nkb (lo_q hj_1 nkb (lo_p hj_1 nkb f_5_1_0 f_5_1_1 c_8 c_9) f_10_0_0) hF_13_0 hF_13_1 hF_13_2 h_14
  | omega
set_option maxHeartbeats 60000 in
theorem lf_X7_loose_16 {nv0 : Int32} {nv1 : Int32} {nv2 : Int32} {nv3 : Int32} {nv5 : Int32} {nhh : Nat} {nww : Nat} {nkk : Nat} {ng1 : Nat → Int32} {ng2 : Nat → Int32} {ng3 : Nat → Int32} {ng4 : Nat → Int32} {ng5 : Nat → Int32} {q : Nat} {az : Nat} {fb : Nat → Option Nat} {ad : Nat → Nat} {V : Nat → Nat → Int32} {G : Nat → Nat → Nat → Int32} {k1 : Int32} {k2 : Int32} {j_1 : Nat} {Vn_12 : Nat → Nat → Int32} {Gn_12 : Nat → Nat → Nat → Int32} {qn_12 : Nat} {zn_12 : Nat} {g3n_13 : Nat → Int32} {g4n_13 : Nat → Int32} {g5n_13 : Nat → Int32} {r_14 : Int32} (nhb : nhh ≤ 999) (nwb : nww ≤ 6) (nkb : nkk ≤ 6) (hLv : okLv (nrm nv0 nv1 nv2 nv3 nhh nv5 nww nkk ng1 ng2 ng3 ng4 ng5)) (hfb : ∀ i : Nat, i < 24 → fb i = some (ad i)) (hok : ∀ i : Nat, i < 24 → okL (V i)) (hq : q < 24) (haz : az ≤ 24) (hj_1 : j_1 < nkk) (f_5_1_0 : ¬ k1 < 0) (f_5_1_1 : ¬ nv0 ≤ k1) (c_8 : ¬ (k2 < 1)) (c_9 : k2 ≤ 20) (f_10_0_0 : ¬ ng5 j_1 = 0) (hF_12_0 : (∀ i : Nat, i < 24 → okL (Vn_12 i))) (hF_12_1 : qn_12 < 24) (hF_12_2 : zn_12 ≤ 24) (hF_12_3 : nrV (Vn_12 q) (Gn_12 q) = (nrm nv0 nv1 nv2 nv3 nhh nv5 nww nkk ng1 ng2 ng3 ng4 ng5)) (hF_12_4 : (∀ i : Nat, i < 24 → i ≠ q → nrV (Vn_12 i) (Gn_12 i) = nrV (V i) (G i))) (hF_12_5 : qn_12 = (q + 1) % 24) (hF_12_6 : zn_12 = ntN az) (hF_13_0 : g3n_13 = upd ng3 j_1 k1) (hF_13_1 : g4n_13 = upd ng4 j_1 k2) (hF_13_2 : g5n_13 = upd ng5 j_1 0) (h_14 : r_14 = (thR g5n_13 0 nkk)) : r_14 = (a_loose (nrm nv0 nv1 nv2 nv3 nhh nv5 nww nkk ng1 ng2 ng3 ng4 ng5) (nI j_1) k1 k2) := by
  first
  | with_reducible exact lo_l (lo_ng (lo_g3 c_8))
  | with_reducible exact kz_n (lo_ng (lo_g3 c_8))
  | with_reducible exact kc_n (lo_ng (lo_g3 c_8))
  | with_reducible exact lo_a (lo_g3 c_8)
  | with_reducible exact lo_l (lo_ng (lo_g4 c_9))
  | with_reducible exact kz_n (lo_ng (lo_g4 c_9))
  | with_reducible exact kc_n (lo_ng (lo_g4 c_9))
  | with_reducible exact lo_a (lo_g4 c_9)
  | with_reducible exact lo_L hj_1 nkb (lo_q hj_1 nkb (lo_p hj_1 nkb f_5_1_0 f_5_1_1 c_8 c_9) f_10_0_0) hF_13_0 hF_13_1 hF_13_2
  | with_reducible exact kz_p (lo_q hj_1 nkb (lo_p hj_1 nkb f_5_1_0 f_5_1_1 c_8 c_9) f_10_0_0) hF_12_6
  | with_reducible exact kc_p (lo_q hj_1 nkb (lo_p hj_1 nkb f_5_1_0 f_5_1_1 c_8 c_9) f_10_0_0) hq haz hF_12_3 hF_12_4 hF_12_5 hF_12_6
  | with_reducible exact lo_A hj_1 nkb (lo_q hj_1 nkb (lo_p hj_1 nkb f_5_1_0 f_5_1_1 c_8 c_9) f_10_0_0) hF_13_0 hF_13_1 hF_13_2 h_14
  | omega
set_option maxHeartbeats 60000 in
theorem lf_X7_loose_17 {nv0 : Int32} {nv1 : Int32} {nv2 : Int32} {nv3 : Int32} {nv5 : Int32} {nhh : Nat} {nww : Nat} {nkk : Nat} {ng1 : Nat → Int32} {ng2 : Nat → Int32} {ng3 : Nat → Int32} {ng4 : Nat → Int32} {ng5 : Nat → Int32} {q : Nat} {az : Nat} {fb : Nat → Option Nat} {ad : Nat → Nat} {V : Nat → Nat → Int32} {k1 : Int32} {k2 : Int32} {j_1 : Nat} (nhb : nhh ≤ 999) (nwb : nww ≤ 6) (nkb : nkk ≤ 6) (hLv : okLv (nrm nv0 nv1 nv2 nv3 nhh nv5 nww nkk ng1 ng2 ng3 ng4 ng5)) (hfb : ∀ i : Nat, i < 24 → fb i = some (ad i)) (hok : ∀ i : Nat, i < 24 → okL (V i)) (hq : q < 24) (haz : az ≤ 24) (hj_1 : j_1 < nkk) (f_5_1_0 : ¬ k1 < 0) (f_5_1_1 : ¬ nv0 ≤ k1) (c_8 : ¬ (k2 < 1)) (c_9 : k2 ≤ 20) (f_10_1_0 : ng5 j_1 = 0) : (nrm nv0 nv1 nv2 nv3 nhh nv5 nww nkk ng1 ng2 ng3 ng4 ng5) = n_loose (nrm nv0 nv1 nv2 nv3 nhh nv5 nww nkk ng1 ng2 ng3 ng4 ng5) (nI j_1) k1 k2 := by
  first
  | with_reducible exact lo_l (lo_ng (lo_g3 c_8))
  | with_reducible exact kz_n (lo_ng (lo_g3 c_8))
  | with_reducible exact kc_n (lo_ng (lo_g3 c_8))
  | with_reducible exact lo_a (lo_g3 c_8)
  | with_reducible exact lo_l (lo_ng (lo_g4 c_9))
  | with_reducible exact kz_n (lo_ng (lo_g4 c_9))
  | with_reducible exact kc_n (lo_ng (lo_g4 c_9))
  | with_reducible exact lo_a (lo_g4 c_9)
  | with_reducible exact lo_l (lo_z hj_1 nkb f_10_1_0)
  | with_reducible exact kz_n (lo_z hj_1 nkb f_10_1_0)
  | with_reducible exact kc_n (lo_z hj_1 nkb f_10_1_0)
  | with_reducible exact lo_a0 hj_1 nkb (lo_p hj_1 nkb f_5_1_0 f_5_1_1 c_8 c_9) f_10_1_0
  | omega
set_option maxHeartbeats 60000 in
theorem lf_X7_loose_18 {nv0 : Int32} {nv1 : Int32} {nv2 : Int32} {nv3 : Int32} {nv5 : Int32} {nhh : Nat} {nww : Nat} {nkk : Nat} {ng1 : Nat → Int32} {ng2 : Nat → Int32} {ng3 : Nat → Int32} {ng4 : Nat → Int32} {ng5 : Nat → Int32} {q : Nat} {az : Nat} {fb : Nat → Option Nat} {ad : Nat → Nat} {V : Nat → Nat → Int32} {k1 : Int32} {k2 : Int32} {j_1 : Nat} (nhb : nhh ≤ 999) (nwb : nww ≤ 6) (nkb : nkk ≤ 6) (hLv : okLv (nrm nv0 nv1 nv2 nv3 nhh nv5 nww nkk ng1 ng2 ng3 ng4 ng5)) (hfb : ∀ i : Nat, i < 24 → fb i = some (ad i)) (hok : ∀ i : Nat, i < 24 → okL (V i)) (hq : q < 24) (haz : az ≤ 24) (hj_1 : j_1 < nkk) (f_5_1_0 : ¬ k1 < 0) (f_5_1_1 : ¬ nv0 ≤ k1) (c_8 : ¬ (k2 < 1)) (c_9 : k2 ≤ 20) (f_10_1_0 : ng5 j_1 = 0) : az = kpN (gd_loose (nrm nv0 nv1 nv2 nv3 nhh nv5 nww nkk ng1 ng2 ng3 ng4 ng5) (nI j_1) k1 k2) az := by
  first
  | with_reducible exact lo_l (lo_ng (lo_g3 c_8))
  | with_reducible exact kz_n (lo_ng (lo_g3 c_8))
  | with_reducible exact kc_n (lo_ng (lo_g3 c_8))
  | with_reducible exact lo_a (lo_g3 c_8)
  | with_reducible exact lo_l (lo_ng (lo_g4 c_9))
  | with_reducible exact kz_n (lo_ng (lo_g4 c_9))
  | with_reducible exact kc_n (lo_ng (lo_g4 c_9))
  | with_reducible exact lo_a (lo_g4 c_9)
  | with_reducible exact lo_l (lo_z hj_1 nkb f_10_1_0)
  | with_reducible exact kz_n (lo_z hj_1 nkb f_10_1_0)
  | with_reducible exact kc_n (lo_z hj_1 nkb f_10_1_0)
  | with_reducible exact lo_a0 hj_1 nkb (lo_p hj_1 nkb f_5_1_0 f_5_1_1 c_8 c_9) f_10_1_0
  | omega
set_option maxHeartbeats 60000 in
theorem lf_X7_loose_19 {nv0 : Int32} {nv1 : Int32} {nv2 : Int32} {nv3 : Int32} {nv5 : Int32} {nhh : Nat} {nww : Nat} {nkk : Nat} {ng1 : Nat → Int32} {ng2 : Nat → Int32} {ng3 : Nat → Int32} {ng4 : Nat → Int32} {ng5 : Nat → Int32} {q : Nat} {az : Nat} {fb : Nat → Option Nat} {ad : Nat → Nat} {V : Nat → Nat → Int32} {G : Nat → Nat → Nat → Int32} {k1 : Int32} {k2 : Int32} {j_1 : Nat} (nhb : nhh ≤ 999) (nwb : nww ≤ 6) (nkb : nkk ≤ 6) (hLv : okLv (nrm nv0 nv1 nv2 nv3 nhh nv5 nww nkk ng1 ng2 ng3 ng4 ng5)) (hfb : ∀ i : Nat, i < 24 → fb i = some (ad i)) (hok : ∀ i : Nat, i < 24 → okL (V i)) (hq : q < 24) (haz : az ≤ 24) (hj_1 : j_1 < nkk) (f_5_1_0 : ¬ k1 < 0) (f_5_1_1 : ¬ nv0 ≤ k1) (c_8 : ¬ (k2 < 1)) (c_9 : k2 ≤ 20) (f_10_1_0 : ng5 j_1 = 0) : acX q az V G = kpA (gd_loose (nrm nv0 nv1 nv2 nv3 nhh nv5 nww nkk ng1 ng2 ng3 ng4 ng5) (nI j_1) k1 k2) (nrm nv0 nv1 nv2 nv3 nhh nv5 nww nkk ng1 ng2 ng3 ng4 ng5) az (acX q az V G) := by
  first
  | with_reducible exact lo_l (lo_ng (lo_g3 c_8))
  | with_reducible exact kz_n (lo_ng (lo_g3 c_8))
  | with_reducible exact kc_n (lo_ng (lo_g3 c_8))
  | with_reducible exact lo_a (lo_g3 c_8)
  | with_reducible exact lo_l (lo_ng (lo_g4 c_9))
  | with_reducible exact kz_n (lo_ng (lo_g4 c_9))
  | with_reducible exact kc_n (lo_ng (lo_g4 c_9))
  | with_reducible exact lo_a (lo_g4 c_9)
  | with_reducible exact lo_l (lo_z hj_1 nkb f_10_1_0)
  | with_reducible exact kz_n (lo_z hj_1 nkb f_10_1_0)
  | with_reducible exact kc_n (lo_z hj_1 nkb f_10_1_0)
  | with_reducible exact lo_a0 hj_1 nkb (lo_p hj_1 nkb f_5_1_0 f_5_1_1 c_8 c_9) f_10_1_0
  | omega
set_option maxHeartbeats 60000 in
theorem lf_X7_loose_20 {nv0 : Int32} {nv1 : Int32} {nv2 : Int32} {nv3 : Int32} {nv5 : Int32} {nhh : Nat} {nww : Nat} {nkk : Nat} {ng1 : Nat → Int32} {ng2 : Nat → Int32} {ng3 : Nat → Int32} {ng4 : Nat → Int32} {ng5 : Nat → Int32} {q : Nat} {az : Nat} {fb : Nat → Option Nat} {ad : Nat → Nat} {V : Nat → Nat → Int32} {k1 : Int32} {k2 : Int32} {j_1 : Nat} (nhb : nhh ≤ 999) (nwb : nww ≤ 6) (nkb : nkk ≤ 6) (hLv : okLv (nrm nv0 nv1 nv2 nv3 nhh nv5 nww nkk ng1 ng2 ng3 ng4 ng5)) (hfb : ∀ i : Nat, i < 24 → fb i = some (ad i)) (hok : ∀ i : Nat, i < 24 → okL (V i)) (hq : q < 24) (haz : az ≤ 24) (hj_1 : j_1 < nkk) (f_5_1_0 : ¬ k1 < 0) (f_5_1_1 : ¬ nv0 ≤ k1) (c_8 : ¬ (k2 < 1)) (c_9 : k2 ≤ 20) (f_10_1_0 : ng5 j_1 = 0) : (-1000002) = (a_loose (nrm nv0 nv1 nv2 nv3 nhh nv5 nww nkk ng1 ng2 ng3 ng4 ng5) (nI j_1) k1 k2) := by
  first
  | with_reducible exact lo_l (lo_ng (lo_g3 c_8))
  | with_reducible exact kz_n (lo_ng (lo_g3 c_8))
  | with_reducible exact kc_n (lo_ng (lo_g3 c_8))
  | with_reducible exact lo_a (lo_g3 c_8)
  | with_reducible exact lo_l (lo_ng (lo_g4 c_9))
  | with_reducible exact kz_n (lo_ng (lo_g4 c_9))
  | with_reducible exact kc_n (lo_ng (lo_g4 c_9))
  | with_reducible exact lo_a (lo_g4 c_9)
  | with_reducible exact lo_l (lo_z hj_1 nkb f_10_1_0)
  | with_reducible exact kz_n (lo_z hj_1 nkb f_10_1_0)
  | with_reducible exact kc_n (lo_z hj_1 nkb f_10_1_0)
  | with_reducible exact lo_a0 hj_1 nkb (lo_p hj_1 nkb f_5_1_0 f_5_1_1 c_8 c_9) f_10_1_0
  | omega
set_option maxHeartbeats 60000 in
theorem lf_X7_loose_21 {nv0 : Int32} {nv1 : Int32} {nv2 : Int32} {nv3 : Int32} {nv5 : Int32} {nhh : Nat} {nww : Nat} {nkk : Nat} {ng1 : Nat → Int32} {ng2 : Nat → Int32} {ng3 : Nat → Int32} {ng4 : Nat → Int32} {ng5 : Nat → Int32} {q : Nat} {az : Nat} {fb : Nat → Option Nat} {ad : Nat → Nat} {V : Nat → Nat → Int32} {k1 : Int32} {k2 : Int32} {j_1 : Nat} (nhb : nhh ≤ 999) (nwb : nww ≤ 6) (nkb : nkk ≤ 6) (hLv : okLv (nrm nv0 nv1 nv2 nv3 nhh nv5 nww nkk ng1 ng2 ng3 ng4 ng5)) (hfb : ∀ i : Nat, i < 24 → fb i = some (ad i)) (hok : ∀ i : Nat, i < 24 → okL (V i)) (hq : q < 24) (haz : az ≤ 24) (hj_1 : j_1 < nkk) (f_5_1_0 : ¬ k1 < 0) (f_5_1_1 : ¬ nv0 ≤ k1) (c_8 : ¬ (k2 < 1)) (c_9 : ¬ (k2 ≤ 20)) : (nrm nv0 nv1 nv2 nv3 nhh nv5 nww nkk ng1 ng2 ng3 ng4 ng5) = n_loose (nrm nv0 nv1 nv2 nv3 nhh nv5 nww nkk ng1 ng2 ng3 ng4 ng5) (nI j_1) k1 k2 := by
  first
  | with_reducible exact lo_l (lo_ng (lo_g3 c_8))
  | with_reducible exact kz_n (lo_ng (lo_g3 c_8))
  | with_reducible exact kc_n (lo_ng (lo_g3 c_8))
  | with_reducible exact lo_a (lo_g3 c_8)
  | with_reducible exact lo_l (lo_ng (lo_g4 c_9))
  | with_reducible exact kz_n (lo_ng (lo_g4 c_9))
  | with_reducible exact kc_n (lo_ng (lo_g4 c_9))
  | with_reducible exact lo_a (lo_g4 c_9)
  | omega
set_option maxHeartbeats 60000 in
theorem lf_X7_loose_22 {nv0 : Int32} {nv1 : Int32} {nv2 : Int32} {nv3 : Int32} {nv5 : Int32} {nhh : Nat} {nww : Nat} {nkk : Nat} {ng1 : Nat → Int32} {ng2 : Nat → Int32} {ng3 : Nat → Int32} {ng4 : Nat → Int32} {ng5 : Nat → Int32} {q : Nat} {az : Nat} {fb : Nat → Option Nat} {ad : Nat → Nat} {V : Nat → Nat → Int32} {k1 : Int32} {k2 : Int32} {j_1 : Nat} (nhb : nhh ≤ 999) (nwb : nww ≤ 6) (nkb : nkk ≤ 6) (hLv : okLv (nrm nv0 nv1 nv2 nv3 nhh nv5 nww nkk ng1 ng2 ng3 ng4 ng5)) (hfb : ∀ i : Nat, i < 24 → fb i = some (ad i)) (hok : ∀ i : Nat, i < 24 → okL (V i)) (hq : q < 24) (haz : az ≤ 24) (hj_1 : j_1 < nkk) (f_5_1_0 : ¬ k1 < 0) (f_5_1_1 : ¬ nv0 ≤ k1) (c_8 : ¬ (k2 < 1)) (c_9 : ¬ (k2 ≤ 20)) : az = kpN (gd_loose (nrm nv0 nv1 nv2 nv3 nhh nv5 nww nkk ng1 ng2 ng3 ng4 ng5) (nI j_1) k1 k2) az := by
  first
  | with_reducible exact lo_l (lo_ng (lo_g3 c_8))
  | with_reducible exact kz_n (lo_ng (lo_g3 c_8))
  | with_reducible exact kc_n (lo_ng (lo_g3 c_8))
  | with_reducible exact lo_a (lo_g3 c_8)
  | with_reducible exact lo_l (lo_ng (lo_g4 c_9))
  | with_reducible exact kz_n (lo_ng (lo_g4 c_9))
  | with_reducible exact kc_n (lo_ng (lo_g4 c_9))
  | with_reducible exact lo_a (lo_g4 c_9)
  | omega
set_option maxHeartbeats 60000 in
theorem lf_X7_loose_23 {nv0 : Int32} {nv1 : Int32} {nv2 : Int32} {nv3 : Int32} {nv5 : Int32} {nhh : Nat} {nww : Nat} {nkk : Nat} {ng1 : Nat → Int32} {ng2 : Nat → Int32} {ng3 : Nat → Int32} {ng4 : Nat → Int32} {ng5 : Nat → Int32} {q : Nat} {az : Nat} {fb : Nat → Option Nat} {ad : Nat → Nat} {V : Nat → Nat → Int32} {G : Nat → Nat → Nat → Int32} {k1 : Int32} {k2 : Int32} {j_1 : Nat} (nhb : nhh ≤ 999) (nwb : nww ≤ 6) (nkb : nkk ≤ 6) (hLv : okLv (nrm nv0 nv1 nv2 nv3 nhh nv5 nww nkk ng1 ng2 ng3 ng4 ng5)) (hfb : ∀ i : Nat, i < 24 → fb i = some (ad i)) (hok : ∀ i : Nat, i < 24 → okL (V i)) (hq : q < 24) (haz : az ≤ 24) (hj_1 : j_1 < nkk) (f_5_1_0 : ¬ k1 < 0) (f_5_1_1 : ¬ nv0 ≤ k1) (c_8 : ¬ (k2 < 1)) (c_9 : ¬ (k2 ≤ 20)) : acX q az V G = kpA (gd_loose (nrm nv0 nv1 nv2 nv3 nhh nv5 nww nkk ng1 ng2 ng3 ng4 ng5) (nI j_1) k1 k2) (nrm nv0 nv1 nv2 nv3 nhh nv5 nww nkk ng1 ng2 ng3 ng4 ng5) az (acX q az V G) := by
  first
  | with_reducible exact lo_l (lo_ng (lo_g3 c_8))
  | with_reducible exact kz_n (lo_ng (lo_g3 c_8))
  | with_reducible exact kc_n (lo_ng (lo_g3 c_8))
  | with_reducible exact lo_a (lo_g3 c_8)
  | with_reducible exact lo_l (lo_ng (lo_g4 c_9))
  | with_reducible exact kz_n (lo_ng (lo_g4 c_9))
  | with_reducible exact kc_n (lo_ng (lo_g4 c_9))
  | with_reducible exact lo_a (lo_g4 c_9)
  | omega
set_option maxHeartbeats 60000 in
theorem lf_X7_loose_24 {nv0 : Int32} {nv1 : Int32} {nv2 : Int32} {nv3 : Int32} {nv5 : Int32} {nhh : Nat} {nww : Nat} {nkk : Nat} {ng1 : Nat → Int32} {ng2 : Nat → Int32} {ng3 : Nat → Int32} {ng4 : Nat → Int32} {ng5 : Nat → Int32} {q : Nat} {az : Nat} {fb : Nat → Option Nat} {ad : Nat → Nat} {V : Nat → Nat → Int32} {k1 : Int32} {k2 : Int32} {j_1 : Nat} (nhb : nhh ≤ 999) (nwb : nww ≤ 6) (nkb : nkk ≤ 6) (hLv : okLv (nrm nv0 nv1 nv2 nv3 nhh nv5 nww nkk ng1 ng2 ng3 ng4 ng5)) (hfb : ∀ i : Nat, i < 24 → fb i = some (ad i)) (hok : ∀ i : Nat, i < 24 → okL (V i)) (hq : q < 24) (haz : az ≤ 24) (hj_1 : j_1 < nkk) (f_5_1_0 : ¬ k1 < 0) (f_5_1_1 : ¬ nv0 ≤ k1) (c_8 : ¬ (k2 < 1)) (c_9 : ¬ (k2 ≤ 20)) : (-1000001) = (a_loose (nrm nv0 nv1 nv2 nv3 nhh nv5 nww nkk ng1 ng2 ng3 ng4 ng5) (nI j_1) k1 k2) := by
  first
  | with_reducible exact lo_l (lo_ng (lo_g3 c_8))
  | with_reducible exact kz_n (lo_ng (lo_g3 c_8))
  | with_reducible exact kc_n (lo_ng (lo_g3 c_8))
  | with_reducible exact lo_a (lo_g3 c_8)
  | with_reducible exact lo_l (lo_ng (lo_g4 c_9))
  | with_reducible exact kz_n (lo_ng (lo_g4 c_9))
  | with_reducible exact kc_n (lo_ng (lo_g4 c_9))
  | with_reducible exact lo_a (lo_g4 c_9)
  | omega
set_option maxHeartbeats 4000000 in
set_option maxRecDepth 100000 in
theorem r_X7_loose (l : Launch) (dC : Nat → ClassId) (dI : Nat → Nat → Nat) (cI cZ cL cJ : ClassId) (sz : Nat) (x : Nat) (ro : Nat) (ta : Nat) (no : Nat) (ac : Nat) (im : Nat) (tr : Nat) (pl : Nat) (cs : Nat) (ak : Nat) (xf : Int32) (xg : Int32) (nv0 : Int32) (nv1 : Int32) (nv2 : Int32) (nv3 : Int32) (nv5 : Int32) (nhh : Nat) (nww : Nat) (nkk : Nat) (nb1 : Nat) (nb2 : Nat) (nb3 : Nat) (nb4 : Nat) (nb5 : Nat) (ng1 : Nat → Int32) (ng2 : Nat → Int32) (ng3 : Nat → Int32) (ng4 : Nat → Int32) (ng5 : Nat → Int32) (be : Nat) (q : Nat) (az : Nat) (fb : Nat → Option Nat) (ad : Nat → Nat) (bd : Nat → Nat → Nat) (V : Nat → Nat → Int32) (G : Nat → Nat → Nat → Int32) (k0 : Int32) (k1 : Int32) (k2 : Int32) (nhb : nhh ≤ 999) (nwb : nww ≤ 6) (nkb : nkk ≤ 6) (hLv : okLv (nrm nv0 nv1 nv2 nv3 nhh nv5 nww nkk ng1 ng2 ng3 ng4 ng5)) (hfb : ∀ i : Nat, i < 24 → fb i = some (ad i)) (hok : ∀ i : Nat, i < 24 → okL (V i)) (hq : q < 24) (haz : az ≤ 24) : Met l yX7_loose wsX7_loose ({ frames := 3, cells := 0, slots := 0, locals := 122 }) (va_Pc [.ref x, .int k0, .int k1, .int k2] (fun U => U.heap.size = sz ∧ va_P (dC, dI) vwCl (([(xo_7_rrrrrrrrrii x ro ta no ac im tr pl cs ak xf xg), (xo_3_iiiiiiiirrrrr no nv0 nv1 nv2 nv3 (nI nhh) nv5 (nI nww) (nI nkk) nb1 nb2 nb3 nb4 nb5), (xI nb1 cI 6 ng1), (xI nb2 cI 6 ng2), (xI nb3 cI 6 ng3), (xI nb4 cI 6 ng4), (xI nb5 cI 6 ng5), (xo_0_rii ac be (nI q) (nI az)), (xJ be cL 24 fb)] : va_W) ++ lvs cI 24 ad bd V G) U.heap ∧ va_K (dC, dI) vwCl [(cI, .int), (cZ, .boolean), (cL, .object RX3), (cJ, .array .int)] U ∧ va_D (fun _ => True) (([(xo_7_rrrrrrrrrii x ro ta no ac im tr pl cs ak xf xg), (xo_3_iiiiiiiirrrrr no nv0 nv1 nv2 nv3 (nI nhh) nv5 (nI nww) (nI nkk) nb1 nb2 nb3 nb4 nb5), (xI nb1 cI 6 ng1), (xI nb2 cI 6 ng2), (xI nb3 cI 6 ng3), (xI nb4 cI 6 ng4), (xI nb5 cI 6 ng5), (xo_0_rii ac be (nI q) (nI az)), (xJ be cL 24 fb)] : va_W) ++ lvs cI 24 ad bd V G))) (va_Qi (fun r (_ : Unit) => r = (a_loose (nrm nv0 nv1 nv2 nv3 nhh nv5 nww nkk ng1 ng2 ng3 ng4 ng5) k0 k1 k2)) (fun (_ : Unit) t => ∃ (Vn : Nat → Nat → Int32) (Gn : Nat → Nat → Nat → Int32) (nv0n : Int32) (nv1n : Int32) (nv2n : Int32) (nv3n : Int32) (nv5n : Int32) (ng1n : Nat → Int32) (ng2n : Nat → Int32) (ng3n : Nat → Int32) (ng4n : Nat → Int32) (ng5n : Nat → Int32) (nhn : Nat) (nwn : Nat) (nkn : Nat) (qn : Nat) (azn : Nat), va_P (dC, dI) vwCl (([(xo_7_rrrrrrrrrii x ro ta no ac im tr pl cs ak xf xg), (xo_3_iiiiiiiirrrrr no nv0n nv1n nv2n nv3n (nI nhn) nv5n (nI nwn) (nI nkn) nb1 nb2 nb3 nb4 nb5), (xI nb1 cI 6 ng1n), (xI nb2 cI 6 ng2n), (xI nb3 cI 6 ng3n), (xI nb4 cI 6 ng4n), (xI nb5 cI 6 ng5n), (xo_0_rii ac be (nI qn) (nI azn)), (xJ be cL 24 fb)] : va_W) ++ lvs cI 24 ad bd Vn Gn) t.heap ∧ va_D (va_A (([(xo_7_rrrrrrrrrii x ro ta no ac im tr pl cs ak xf xg), (xo_3_iiiiiiiirrrrr no nv0 nv1 nv2 nv3 (nI nhh) nv5 (nI nww) (nI nkk) nb1 nb2 nb3 nb4 nb5), (xI nb1 cI 6 ng1), (xI nb2 cI 6 ng2), (xI nb3 cI 6 ng3), (xI nb4 cI 6 ng4), (xI nb5 cI 6 ng5), (xo_0_rii ac be (nI q) (nI az)), (xJ be cL 24 fb)] : va_W) ++ lvs cI 24 ad bd V G) sz) (([(xo_7_rrrrrrrrrii x ro ta no ac im tr pl cs ak xf xg), (xo_3_iiiiiiiirrrrr no nv0n nv1n nv2n nv3n (nI nhn) nv5n (nI nwn) (nI nkn) nb1 nb2 nb3 nb4 nb5), (xI nb1 cI 6 ng1n), (xI nb2 cI 6 ng2n), (xI nb3 cI 6 ng3n), (xI nb4 cI 6 ng4n), (xI nb5 cI 6 ng5n), (xo_0_rii ac be (nI qn) (nI azn)), (xJ be cL 24 fb)] : va_W) ++ lvs cI 24 ad bd Vn Gn) ∧ (∀ i : Nat, i < 24 → okL (Vn i)) ∧ qn < 24 ∧ azn ≤ 24 ∧ nhn ≤ 999 ∧ nwn ≤ 6 ∧ nkn ≤ 6 ∧ (nrm nv0n nv1n nv2n nv3n nhn nv5n nwn nkn ng1n ng2n ng3n ng4n ng5n) = n_loose (nrm nv0 nv1 nv2 nv3 nhh nv5 nww nkk ng1 ng2 ng3 ng4 ng5) k0 k1 k2 ∧ azn = kpN (gd_loose (nrm nv0 nv1 nv2 nv3 nhh nv5 nww nkk ng1 ng2 ng3 ng4 ng5) k0 k1 k2) az ∧ acX qn azn Vn Gn = kpA (gd_loose (nrm nv0 nv1 nv2 nv3 nhh nv5 nww nkk ng1 ng2 ng3 ng4 ng5) k0 k1 k2) (nrm nv0 nv1 nv2 nv3 nhh nv5 nww nkk ng1 ng2 ng3 ng4 ng5) az (acX q az V G)) (va_A (([(xo_7_rrrrrrrrrii x ro ta no ac im tr pl cs ak xf xg), (xo_3_iiiiiiiirrrrr no nv0 nv1 nv2 nv3 (nI nhh) nv5 (nI nww) (nI nkk) nb1 nb2 nb3 nb4 nb5), (xI nb1 cI 6 ng1), (xI nb2 cI 6 ng2), (xI nb3 cI 6 ng3), (xI nb4 cI 6 ng4), (xI nb5 cI 6 ng5), (xo_0_rii ac be (nI q) (nI az)), (xJ be cL 24 fb)] : va_W) ++ lvs cI 24 ad bd V G) sz)) 0 0 (va_A (([(xo_7_rrrrrrrrrii x ro ta no ac im tr pl cs ak xf xg), (xo_3_iiiiiiiirrrrr no nv0 nv1 nv2 nv3 (nI nhh) nv5 (nI nww) (nI nkk) nb1 nb2 nb3 nb4 nb5), (xI nb1 cI 6 ng1), (xI nb2 cI 6 ng2), (xI nb3 cI 6 ng3), (xI nb4 cI 6 ng4), (xI nb5 cI 6 ng5), (xo_0_rii ac be (nI q) (nI az)), (xJ be cL 24 fb)] : va_W) ++ lvs cI 24 ad bd V G) sz) := by
  refine Met.ofW (cc := cX7_loose) (maxL := 4) (ret := (some .int)) (by decide) rfl ?_
  intro p e s m args below meth c s₁ B hml hv
  obtain ⟨rfl, hsz, hP, hK, hD0⟩ := hv
  have hx := B.exec
  have hb := B.bytes
  have hr := B.returns
  have hts := atoms_spec (ws := wsX7_loose) B.pre
  have hown : s.vm.findClass RX7 = some m.cls := findClass_of_methodNamed B.named
  have hlocks := B.notSynchronized
  subst hsz
  have hD := hD0.self (sz := s.heap.size)
  generalize hAe : va_A (([(xo_7_rrrrrrrrrii x ro ta no ac im tr pl cs ak xf xg), (xo_3_iiiiiiiirrrrr no nv0 nv1 nv2 nv3 (nI nhh) nv5 (nI nww) (nI nkk) nb1 nb2 nb3 nb4 nb5), (xI nb1 cI 6 ng1), (xI nb2 cI 6 ng2), (xI nb3 cI 6 ng3), (xI nb4 cI 6 ng4), (xI nb5 cI 6 ng5), (xo_0_rii ac be (nI q) (nI az)), (xJ be cL 24 fb)] : va_W) ++ lvs cI 24 ad bd V G) s.heap.size = A at hD ⊢
  have hA : ∀ q : Nat, s.heap.size ≤ q → A q := fun q h => by rw [← hAe]; exact Or.inr h
  have hS : va_S A s.heap s.heap [] := va_S.rf
  have hP : va_P (dC, dI) vwCl (([(xo_7_rrrrrrrrrii x ro ta no ac im tr pl cs ak xf xg), (xo_3_iiiiiiiirrrrr no nv0 nv1 nv2 nv3 (nI nhh) nv5 (nI nww) (nI nkk) nb1 nb2 nb3 nb4 nb5), (xI nb1 cI 6 ng1), (xI nb2 cI 6 ng2), (xI nb3 cI 6 ng3), (xI nb4 cI 6 ng4), (xI nb5 cI 6 ng5), (xo_0_rii ac be (nI q) (nI az)), (xJ be cL 24 fb)] : va_W) ++ lvs cI 24 ad bd V G) s.heap := hP
  have hl := lv_entry ([.ref x, .int k0, .int k1, .int k2]) (n := 4) (Nat.le_of_ble_eq_true rfl)
  rw [lg_entry_eq]
  generalize (lg_sl ([.ref x, .int k0, .int k1, .int k2]) ++ List.replicate (4 - (lg_sl ([.ref x, .int k0, .int k1, .int k2])).length) Slot.unset).toArray = ls at hl ⊢
  have hl : lv_has ls 4 [(0, .ref x), (1, .int k0), (2, .int k1), (3, .int k2)] := hl
  refine lv_aload_n hx hb dX7_loose_0 rfl (lv_at hl 0 rfl) ?_
  refine va_get (D := (dC, dI)) (ci := 7) (v := .ref no) (C := RX7) (T := TX7) (N := 11) hx hb hts i_X7_loose_X7 hown hK hP 0 rfl rfl 2 (by decide) (hts _ mx_X7_loose_1) (fun _ h9 => h9) rfl dX7_loose_1 ?_
  refine lv_iload_n hx hb dX7_loose_4 rfl (lv_at hl 1 rfl) ?_
  have hPc_1 := hP.sub (ws' := [(xo_3_iiiiiiiirrrrr no nv0 nv1 nv2 nv3 (nI nhh) nv5 (nI nww) (nI nkk) nb1 nb2 nb3 nb4 nb5), (xI nb1 cI 6 ng1), (xI nb2 cI 6 ng2), (xI nb3 cI 6 ng3), (xI nb4 cI 6 ng4), (xI nb5 cI 6 ng5)]) [1, 2, 3, 4, 5, 6] rfl
  refine vp_callSi (W.runV (As := [.int k0]) (rest := []) ⟨hx, hb, hml, hown, hts⟩ (r_X3_hasSound l dC dI cI cZ cL cJ no nv0 nv1 nv2 nv3 nv5 nhh nww nkk nb1 nb2 nb3 nb4 nb5 ng1 ng2 ng3 ng4 ng5 k0 (by omega) (by omega) (by omega)) (cwV 1 hts gX7_loose_X3_hasSound rfl rfl rfl (by decide +kernel) ⟨Nat.le_of_ble_eq_true rfl, Nat.le_of_ble_eq_true rfl⟩) (pvP 3 1 hK hP rfl rfl hPc_1) rfl rfl hl.1 rfl (lv_room (Nat.le_of_ble_eq_true rfl)) dX7_loose_5 ⟨Nat.le_of_ble_eq_true rfl, Nat.le_of_ble_eq_true rfl⟩) (fun r_1 h_1 => ?_)
  rcases h_1 with ⟨h_1, f_1_0_0⟩ | ⟨h_1, f_1_1_0⟩
  · subst h_1
    refine lv_if_eq (tgt := 33) hx hb dX7_loose_8 (by decide) (fun _ => ?_) (fun c_ => absurd (by decide) c_)
    refine lv_ldc (own := RX7) (v := (-1000001)) hx hb hown (hts _ mx_X7_loose_2) dX7_loose_33 ?_
    have hX9 := cut2P (cx := [(xo_7_rrrrrrrrrii x ro ta no ac im tr pl cs ak xf xg), (xo_3_iiiiiiiirrrrr no nv0 nv1 nv2 nv3 (nI nhh) nv5 (nI nww) (nI nkk) nb1 nb2 nb3 nb4 nb5), (xI nb1 cI 6 ng1), (xI nb2 cI 6 ng2), (xI nb3 cI 6 ng3), (xI nb4 cI 6 ng4), (xI nb5 cI 6 ng5), (xo_0_rii ac be (nI q) (nI az)), (xJ be cL 24 fb)]) hP hD [0, 1, 2, 3, 4, 5, 6, 7, 8] (by decide +kernel) rfl
    exact W.iret (v := (-1000001)) hx hb hr (fun t ht hW => ⟨⟨(-1000001), (), rfl, (lf_X7_loose_4 nhb nwb nkb hLv hfb hok hq haz f_1_0_0), ⟨V, G, nv0, nv1, nv2, nv3, nv5, ng1, ng2, ng3, ng4, ng5, nhh, nww, nkk, q, az, va_Ht ht hX9.1, hX9.2, hok, (by omega), (by omega), (by omega), (by omega), (by omega), (lf_X7_loose_1 nhb nwb nkb hLv hfb hok hq haz f_1_0_0), (lf_X7_loose_2 nhb nwb nkb hLv hfb hok hq haz f_1_0_0), (lf_X7_loose_3 nhb nwb nkb hLv hfb hok hq haz f_1_0_0)⟩⟩, hS.F ht⟩) hS.2.2 dX7_loose_35
  · subst h_1
    obtain ⟨j_1, hj_1, rfl⟩ := vp_in_of f_1_1_0 (by omega)
    refine lv_if_eq (tgt := 33) hx hb dX7_loose_8 (by decide) (fun c_ => absurd c_ (by decide)) (fun _ => ?_)
    refine lv_aload_n hx hb dX7_loose_11 rfl (lv_at hl 0 rfl) ?_
    refine va_get (D := (dC, dI)) (ci := 7) (v := .ref no) (C := RX7) (T := TX7) (N := 11) hx hb hts i_X7_loose_X7 hown hK hP 0 rfl rfl 2 (by decide) (hts _ mx_X7_loose_1) (fun _ h9 => h9) rfl dX7_loose_12 ?_
    refine lv_iload_n hx hb dX7_loose_15 rfl (lv_at hl 2 rfl) ?_
    have hPc_5 := hP.sub (ws' := [(xo_3_iiiiiiiirrrrr no nv0 nv1 nv2 nv3 (nI nhh) nv5 (nI nww) (nI nkk) nb1 nb2 nb3 nb4 nb5), (xI nb1 cI 6 ng1), (xI nb2 cI 6 ng2), (xI nb3 cI 6 ng3), (xI nb4 cI 6 ng4), (xI nb5 cI 6 ng5)]) [1, 2, 3, 4, 5, 6] rfl
    refine vp_callSi (W.runV (As := [.int k1]) (rest := []) ⟨hx, hb, hml, hown, hts⟩ (r_X3_hasCell l dC dI cI cZ cL cJ no nv0 nv1 nv2 nv3 nv5 nhh nww nkk nb1 nb2 nb3 nb4 nb5 ng1 ng2 ng3 ng4 ng5 k1 (by omega) (by omega) (by omega)) (cwV 1 hts gX7_loose_X3_hasCell rfl rfl rfl (by decide +kernel) ⟨Nat.le_of_ble_eq_true rfl, Nat.le_of_ble_eq_true rfl⟩) (pvP 3 1 hK hP rfl rfl hPc_5) rfl rfl hl.1 rfl (lv_room (Nat.le_of_ble_eq_true rfl)) dX7_loose_16 ⟨Nat.le_of_ble_eq_true rfl, Nat.le_of_ble_eq_true rfl⟩) (fun r_5 h_5 => ?_)
    rcases h_5 with ⟨h_5, f_5_0_0⟩ | ⟨h_5, f_5_1_0, f_5_1_1⟩
    · subst h_5
      refine lv_if_eq (tgt := 33) hx hb dX7_loose_19 (by decide) (fun _ => ?_) (fun c_ => absurd (by decide) c_)
      refine lv_ldc (own := RX7) (v := (-1000001)) hx hb hown (hts _ mx_X7_loose_2) dX7_loose_33 ?_
      have hX9 := cut2P (cx := [(xo_7_rrrrrrrrrii x ro ta no ac im tr pl cs ak xf xg), (xo_3_iiiiiiiirrrrr no nv0 nv1 nv2 nv3 (nI nhh) nv5 (nI nww) (nI nkk) nb1 nb2 nb3 nb4 nb5), (xI nb1 cI 6 ng1), (xI nb2 cI 6 ng2), (xI nb3 cI 6 ng3), (xI nb4 cI 6 ng4), (xI nb5 cI 6 ng5), (xo_0_rii ac be (nI q) (nI az)), (xJ be cL 24 fb)]) hP hD [0, 1, 2, 3, 4, 5, 6, 7, 8] (by decide +kernel) rfl
      exact W.iret (v := (-1000001)) hx hb hr (fun t ht hW => ⟨⟨(-1000001), (), rfl, (lf_X7_loose_8 nhb nwb nkb hLv hfb hok hq haz hj_1 f_5_0_0), ⟨V, G, nv0, nv1, nv2, nv3, nv5, ng1, ng2, ng3, ng4, ng5, nhh, nww, nkk, q, az, va_Ht ht hX9.1, hX9.2, hok, (by omega), (by omega), (by omega), (by omega), (by omega), (lf_X7_loose_5 nhb nwb nkb hLv hfb hok hq haz hj_1 f_5_0_0), (lf_X7_loose_6 nhb nwb nkb hLv hfb hok hq haz hj_1 f_5_0_0), (lf_X7_loose_7 nhb nwb nkb hLv hfb hok hq haz hj_1 f_5_0_0)⟩⟩, hS.F ht⟩) hS.2.2 dX7_loose_35
    · subst h_5
      refine lv_if_eq (tgt := 33) hx hb dX7_loose_19 (by decide) (fun c_ => absurd c_ (by decide)) (fun _ => ?_)
      refine lv_iload_n hx hb dX7_loose_22 rfl (lv_at hl 3 rfl) ?_
      refine lv_iconst (v := 1) hx hb dX7_loose_23 (by decide) ?_
      refine lv_icmp_lt (tgt := 33) hx hb dX7_loose_24 (by decide) (fun c_8 => ?_) (fun c_8 => ?_)
      · skip
        refine lv_ldc (own := RX7) (v := (-1000001)) hx hb hown (hts _ mx_X7_loose_2) dX7_loose_33 ?_
        have hX9 := cut2P (cx := [(xo_7_rrrrrrrrrii x ro ta no ac im tr pl cs ak xf xg), (xo_3_iiiiiiiirrrrr no nv0 nv1 nv2 nv3 (nI nhh) nv5 (nI nww) (nI nkk) nb1 nb2 nb3 nb4 nb5), (xI nb1 cI 6 ng1), (xI nb2 cI 6 ng2), (xI nb3 cI 6 ng3), (xI nb4 cI 6 ng4), (xI nb5 cI 6 ng5), (xo_0_rii ac be (nI q) (nI az)), (xJ be cL 24 fb)]) hP hD [0, 1, 2, 3, 4, 5, 6, 7, 8] (by decide +kernel) rfl
        exact W.iret (v := (-1000001)) hx hb hr (fun t ht hW => ⟨⟨(-1000001), (), rfl, (lf_X7_loose_12 nhb nwb nkb hLv hfb hok hq haz hj_1 f_5_1_0 f_5_1_1 c_8), ⟨V, G, nv0, nv1, nv2, nv3, nv5, ng1, ng2, ng3, ng4, ng5, nhh, nww, nkk, q, az, va_Ht ht hX9.1, hX9.2, hok, (by omega), (by omega), (by omega), (by omega), (by omega), (lf_X7_loose_9 nhb nwb nkb hLv hfb hok hq haz hj_1 f_5_1_0 f_5_1_1 c_8), (lf_X7_loose_10 nhb nwb nkb hLv hfb hok hq haz hj_1 f_5_1_0 f_5_1_1 c_8), (lf_X7_loose_11 nhb nwb nkb hLv hfb hok hq haz hj_1 f_5_1_0 f_5_1_1 c_8)⟩⟩, hS.F ht⟩) hS.2.2 dX7_loose_35
      · skip
        refine lv_iload_n hx hb dX7_loose_27 rfl (lv_at hl 3 rfl) ?_
        refine lv_bipush (v := 20) hx hb dX7_loose_28 (by decide) ?_
        refine lv_icmp_le (tgt := 36) hx hb dX7_loose_30 (by decide) (fun c_9 => ?_) (fun c_9 => ?_)
        · skip
          refine lv_aload_n hx hb dX7_loose_36 rfl (lv_at hl 0 rfl) ?_
          refine va_get (D := (dC, dI)) (ci := 7) (v := .ref no) (C := RX7) (T := TX7) (N := 11) hx hb hts i_X7_loose_X7 hown hK hP 0 rfl rfl 2 (by decide) (hts _ mx_X7_loose_1) (fun _ h9 => h9) rfl dX7_loose_37 ?_
          refine lv_iload_n hx hb dX7_loose_40 rfl (lv_at hl 1 rfl) ?_
          have hPc_10 := hP.sub (ws' := [(xo_3_iiiiiiiirrrrr no nv0 nv1 nv2 nv3 (nI nhh) nv5 (nI nww) (nI nkk) nb1 nb2 nb3 nb4 nb5), (xI nb1 cI 6 ng1), (xI nb2 cI 6 ng2), (xI nb3 cI 6 ng3), (xI nb4 cI 6 ng4), (xI nb5 cI 6 ng5)]) [1, 2, 3, 4, 5, 6] rfl
          refine vp_callSi (W.runV (As := [.int (nI j_1)]) (rest := []) ⟨hx, hb, hml, hown, hts⟩ (r_X3_isLoose l dC dI cI cZ cL cJ no nv0 nv1 nv2 nv3 nv5 nhh nww nkk nb1 nb2 nb3 nb4 nb5 ng1 ng2 ng3 ng4 ng5 j_1 (by omega) (by omega) (by omega) (by omega)) (cwV 1 hts gX7_loose_X3_isLoose rfl rfl rfl (by decide +kernel) ⟨Nat.le_of_ble_eq_true rfl, Nat.le_of_ble_eq_true rfl⟩) (pvP 3 1 hK hP rfl rfl hPc_10) rfl rfl hl.1 rfl (lv_room (Nat.le_of_ble_eq_true rfl)) dX7_loose_41 ⟨Nat.le_of_ble_eq_true rfl, Nat.le_of_ble_eq_true rfl⟩) (fun r_10 h_10 => ?_)
          rcases h_10 with ⟨h_10, f_10_0_0⟩ | ⟨h_10, f_10_1_0⟩
          · subst h_10
            refine lv_if_eq (tgt := 50) hx hb dX7_loose_44 (by decide) (fun _ => ?_) (fun c_ => absurd (by decide) c_)
            refine lv_aload_n hx hb dX7_loose_50 rfl (lv_at hl 0 rfl) ?_
            refine va_get (D := (dC, dI)) (ci := 7) (v := .ref ac) (C := RX7) (T := TX7) (N := 11) hx hb hts i_X7_loose_X7 hown hK hP 0 rfl rfl 3 (by decide) (hts _ mx_X7_loose_4) (fun _ h9 => h9) rfl dX7_loose_51 ?_
            refine lv_aload_n hx hb dX7_loose_54 rfl (lv_at hl 0 rfl) ?_
            refine va_get (D := (dC, dI)) (ci := 7) (v := .ref no) (C := RX7) (T := TX7) (N := 11) hx hb hts i_X7_loose_X7 hown hK hP 0 rfl rfl 2 (by decide) (hts _ mx_X7_loose_1) (fun _ h9 => h9) rfl dX7_loose_55 ?_
            have hc_12 := cutP (cx := [(xo_0_rii ac be (nI q) (nI az)), (xJ be cL 24 fb), (xo_3_iiiiiiiirrrrr no nv0 nv1 nv2 nv3 (nI nhh) nv5 (nI nww) (nI nkk) nb1 nb2 nb3 nb4 nb5), (xI nb1 cI 6 ng1), (xI nb2 cI 6 ng2), (xI nb3 cI 6 ng3), (xI nb4 cI 6 ng4), (xI nb5 cI 6 ng5)]) hP hD hS hA [7, 8, 1, 2, 3, 4, 5, 6] (by decide +kernel) rfl
            refine va_callv (va_runV (As := [.ref no]) (rest := []) ⟨hx, hb, hml, hown, hts⟩ (r_X0_keep l dC dI cI cZ cL cJ s.heap.size ac be q az fb ad bd V G no nv0 nv1 nv2 nv3 nv5 nhh nww nkk nb1 nb2 nb3 nb4 nb5 ng1 ng2 ng3 ng4 ng5 (hfb) (hok) (by omega) (by omega) (by omega) (by omega) (by omega)) (cwV 1 hts gX7_loose_X0_keep rfl rfl rfl (by decide +kernel) ⟨Nat.le_of_ble_eq_true rfl, Nat.le_of_ble_eq_true rfl⟩) (pvW 0 7 hK hP rfl rfl hc_12) rfl rfl hl.1 rfl (lv_room (Nat.le_of_ble_eq_true rfl)) dX7_loose_58 ⟨Nat.le_of_ble_eq_true rfl, Nat.le_of_ble_eq_true rfl⟩) hS (fun q _ h => hc_12.2.2 q h) hc_12.2.2 (fun u_12 t_12 H1 locs ht hvm h_12 hB hz1 hk1 hS => ?_)
            refine xl_4_9 hB (fun Vn_12 Gn_12 qn_12 zn_12 hP1 hD1 hF_12_0 hF_12_1 hF_12_2 hF_12_3 hF_12_4 hF_12_5 hF_12_6 => ?_)
            clear hB
            rw [ht] at hP1
            obtain ⟨hP, hD⟩ := va_joinP (wr := [(xo_7_rrrrrrrrrii x ro ta no ac im tr pl cs ak xf xg)]) (rx := [(xo_0_rii ac be (nI qn_12) (nI zn_12)), (xJ be cL 24 fb), (xo_3_iiiiiiiirrrrr no nv0 nv1 nv2 nv3 (nI nhh) nv5 (nI nww) (nI nkk) nb1 nb2 nb3 nb4 nb5), (xI nb1 cI 6 ng1), (xI nb2 cI 6 ng2), (xI nb3 cI 6 ng3), (xI nb4 cI 6 ng4), (xI nb5 cI 6 ng5)]) (pl1 := lvs cI 24 ad bd Vn_12 Gn_12) hP hD [7, 8, 1, 2, 3, 4, 5, 6] [0] rfl rfl (by decide +kernel) (by decide +kernel) hk1 hc_12.2.2 hP1 hD1
            generalize H1 = H at hP hS ⊢
            have hP : va_P (dC, dI) vwCl (([(xo_7_rrrrrrrrrii x ro ta no ac im tr pl cs ak xf xg), (xo_0_rii ac be (nI qn_12) (nI zn_12)), (xJ be cL 24 fb), (xo_3_iiiiiiiirrrrr no nv0 nv1 nv2 nv3 (nI nhh) nv5 (nI nww) (nI nkk) nb1 nb2 nb3 nb4 nb5), (xI nb1 cI 6 ng1), (xI nb2 cI 6 ng2), (xI nb3 cI 6 ng3), (xI nb4 cI 6 ng4), (xI nb5 cI 6 ng5)] : va_W) ++ lvs cI 24 ad bd Vn_12 Gn_12) H := hP
            have hD := dto hP hD
            refine lv_aload_n hx hb dX7_loose_61 rfl (lv_at hl 0 rfl) ?_
            refine va_get (D := (dC, dI)) (ci := 7) (v := .ref no) (C := RX7) (T := TX7) (N := 11) hx hb hts i_X7_loose_X7 hown hK hP 0 rfl rfl 2 (by decide) (hts _ mx_X7_loose_1) (fun _ h9 => h9) rfl dX7_loose_62 ?_
            refine lv_iload_n hx hb dX7_loose_65 rfl (lv_at hl 1 rfl) ?_
            refine lv_iload_n hx hb dX7_loose_66 rfl (lv_at hl 2 rfl) ?_
            refine lv_iload_n hx hb dX7_loose_67 rfl (lv_at hl 3 rfl) ?_
            have hc_13 := cutX (wc := [(xo_3_iiiiiiiirrrrr no nv0 nv1 nv2 nv3 (nI nhh) nv5 (nI nww) (nI nkk) nb1 nb2 nb3 nb4 nb5), (xI nb1 cI 6 ng1), (xI nb2 cI 6 ng2), (xI nb3 cI 6 ng3), (xI nb4 cI 6 ng4), (xI nb5 cI 6 ng5)]) hP hD hS hA [3, 4, 5, 6, 7, 8] (by decide +kernel) rfl
            refine va_callv (va_runV (As := [.int (nI j_1), .int k1, .int k2]) (rest := []) ⟨hx, hb, hml, hown, hts⟩ (r_X3_letLoose l dC dI cI cZ cL cJ H.size no nv0 nv1 nv2 nv3 nv5 nhh nww nkk nb1 nb2 nb3 nb4 nb5 ng1 ng2 ng3 ng4 ng5 j_1 k1 k2 (by omega) (by omega) (by omega) (by omega)) (cwV 3 hts gX7_loose_X3_letLoose rfl rfl rfl (by decide +kernel) ⟨Nat.le_of_ble_eq_true rfl, Nat.le_of_ble_eq_true rfl⟩) (pvW 3 3 hK hP rfl rfl hc_13) rfl rfl hl.1 rfl (lv_room (Nat.le_of_ble_eq_true rfl)) dX7_loose_68 ⟨Nat.le_of_ble_eq_true rfl, Nat.le_of_ble_eq_true rfl⟩) hS (fun q _ h => hc_13.2.2 q h) hc_13.2.2 (fun u_13 t_13 H1 locs ht hvm h_13 hB hz1 hk1 hS => ?_)
            refine xl_3_5 hB (fun g3n_13 g4n_13 g5n_13 hP1 hD1 hF_13_0 hF_13_1 hF_13_2 => ?_)
            clear hB
            rw [ht] at hP1
            obtain ⟨hP, hD⟩ := va_joinQ (wr := [(xo_7_rrrrrrrrrii x ro ta no ac im tr pl cs ak xf xg), (xo_0_rii ac be (nI qn_12) (nI zn_12)), (xJ be cL 24 fb)]) (w1 := [(xo_3_iiiiiiiirrrrr no nv0 nv1 nv2 nv3 (nI nhh) nv5 (nI nww) (nI nkk) nb1 nb2 nb3 nb4 nb5), (xI nb1 cI 6 ng1), (xI nb2 cI 6 ng2), (xI nb3 cI 6 g3n_13), (xI nb4 cI 6 g4n_13), (xI nb5 cI 6 g5n_13)]) hP hD [3, 4, 5, 6, 7, 8] [0, 1, 2] rfl rfl (by decide +kernel) (by decide +kernel) hk1 hc_13.2.2 hP1 hD1
            generalize H1 = H at hP hS ⊢
            have hP : va_P (dC, dI) vwCl (([(xo_7_rrrrrrrrrii x ro ta no ac im tr pl cs ak xf xg), (xo_0_rii ac be (nI qn_12) (nI zn_12)), (xJ be cL 24 fb), (xo_3_iiiiiiiirrrrr no nv0 nv1 nv2 nv3 (nI nhh) nv5 (nI nww) (nI nkk) nb1 nb2 nb3 nb4 nb5), (xI nb1 cI 6 ng1), (xI nb2 cI 6 ng2), (xI nb3 cI 6 g3n_13), (xI nb4 cI 6 g4n_13), (xI nb5 cI 6 g5n_13)] : va_W) ++ lvs cI 24 ad bd Vn_12 Gn_12) H := hP
            have hD := dto hP hD
            refine lv_aload_n hx hb dX7_loose_71 rfl (lv_at hl 0 rfl) ?_
            refine va_get (D := (dC, dI)) (ci := 7) (v := .ref no) (C := RX7) (T := TX7) (N := 11) hx hb hts i_X7_loose_X7 hown hK hP 0 rfl rfl 2 (by decide) (hts _ mx_X7_loose_1) (fun _ h9 => h9) rfl dX7_loose_72 ?_
            refine lv_iconst (v := 0) hx hb dX7_loose_75 (by decide) ?_
            have hPc_14 := hP.sub (ws' := [(xo_3_iiiiiiiirrrrr no nv0 nv1 nv2 nv3 (nI nhh) nv5 (nI nww) (nI nkk) nb1 nb2 nb3 nb4 nb5), (xI nb1 cI 6 ng1), (xI nb2 cI 6 ng2), (xI nb3 cI 6 g3n_13), (xI nb4 cI 6 g4n_13), (xI nb5 cI 6 g5n_13)]) [3, 4, 5, 6, 7, 8] rfl
            refine vp_callSi (W.runV (As := [.int 0]) (rest := []) ⟨hx, hb, hml, hown, hts⟩ (r_X3_soundsThatAre l dC dI cI cZ cL cJ no nv0 nv1 nv2 nv3 nv5 nhh nww nkk nb1 nb2 nb3 nb4 nb5 ng1 ng2 g3n_13 g4n_13 g5n_13 0 (by omega) (by omega) (by omega)) (cwV 1 hts gX7_loose_X3_soundsThatAre rfl rfl rfl (by decide +kernel) ⟨Nat.le_of_ble_eq_true rfl, Nat.le_of_ble_eq_true rfl⟩) (pvP 3 3 hK hP rfl rfl hPc_14) rfl rfl hl.1 rfl (lv_room (Nat.le_of_ble_eq_true rfl)) dX7_loose_76 ⟨Nat.le_of_ble_eq_true rfl, Nat.le_of_ble_eq_true rfl⟩) (fun r_14 h_14 => ?_)
            have hX9 := cut2P (cx := [(xo_7_rrrrrrrrrii x ro ta no ac im tr pl cs ak xf xg), (xo_3_iiiiiiiirrrrr no nv0 nv1 nv2 nv3 (nI nhh) nv5 (nI nww) (nI nkk) nb1 nb2 nb3 nb4 nb5), (xI nb1 cI 6 ng1), (xI nb2 cI 6 ng2), (xI nb3 cI 6 g3n_13), (xI nb4 cI 6 g4n_13), (xI nb5 cI 6 g5n_13), (xo_0_rii ac be (nI qn_12) (nI zn_12)), (xJ be cL 24 fb)]) hP hD [0, 3, 4, 5, 6, 7, 8, 1, 2] (by decide +kernel) rfl
            exact W.iret (v := r_14) hx hb hr (fun t ht hW => ⟨⟨r_14, (), rfl, (lf_X7_loose_16 nhb nwb nkb hLv hfb hok hq haz hj_1 f_5_1_0 f_5_1_1 c_8 c_9 f_10_0_0 hF_12_0 hF_12_1 hF_12_2 hF_12_3 hF_12_4 hF_12_5 hF_12_6 hF_13_0 hF_13_1 hF_13_2 h_14), ⟨Vn_12, Gn_12, nv0, nv1, nv2, nv3, nv5, ng1, ng2, g3n_13, g4n_13, g5n_13, nhh, nww, nkk, qn_12, zn_12, va_Ht ht hX9.1, hX9.2, hF_12_0, (by omega), (by omega), (by omega), (by omega), (by omega), (lf_X7_loose_13 nhb nwb nkb hLv hfb hok hq haz hj_1 f_5_1_0 f_5_1_1 c_8 c_9 f_10_0_0 hF_12_0 hF_12_1 hF_12_2 hF_12_3 hF_12_4 hF_12_5 hF_12_6 hF_13_0 hF_13_1 hF_13_2 h_14), (lf_X7_loose_14 nhb nwb nkb hLv hfb hok hq haz hj_1 f_5_1_0 f_5_1_1 c_8 c_9 f_10_0_0 hF_12_0 hF_12_1 hF_12_2 hF_12_3 hF_12_4 hF_12_5 hF_12_6 hF_13_0 hF_13_1 hF_13_2 h_14), (lf_X7_loose_15 nhb nwb nkb hLv hfb hok hq haz hj_1 f_5_1_0 f_5_1_1 c_8 c_9 f_10_0_0 hF_12_0 hF_12_1 hF_12_2 hF_12_3 hF_12_4 hF_12_5 hF_12_6 hF_13_0 hF_13_1 hF_13_2 h_14)⟩⟩, hS.F ht⟩) hS.2.2 dX7_loose_79
          · subst h_10
            refine lv_if_eq (tgt := 50) hx hb dX7_loose_44 (by decide) (fun c_ => absurd c_ (by decide)) (fun _ => ?_)
            refine lv_ldc (own := RX7) (v := (-1000002)) hx hb hown (hts _ mx_X7_loose_3) dX7_loose_47 ?_
            have hX9 := cut2P (cx := [(xo_7_rrrrrrrrrii x ro ta no ac im tr pl cs ak xf xg), (xo_3_iiiiiiiirrrrr no nv0 nv1 nv2 nv3 (nI nhh) nv5 (nI nww) (nI nkk) nb1 nb2 nb3 nb4 nb5), (xI nb1 cI 6 ng1), (xI nb2 cI 6 ng2), (xI nb3 cI 6 ng3), (xI nb4 cI 6 ng4), (xI nb5 cI 6 ng5), (xo_0_rii ac be (nI q) (nI az)), (xJ be cL 24 fb)]) hP hD [0, 1, 2, 3, 4, 5, 6, 7, 8] (by decide +kernel) rfl
            exact W.iret (v := (-1000002)) hx hb hr (fun t ht hW => ⟨⟨(-1000002), (), rfl, (lf_X7_loose_20 nhb nwb nkb hLv hfb hok hq haz hj_1 f_5_1_0 f_5_1_1 c_8 c_9 f_10_1_0), ⟨V, G, nv0, nv1, nv2, nv3, nv5, ng1, ng2, ng3, ng4, ng5, nhh, nww, nkk, q, az, va_Ht ht hX9.1, hX9.2, hok, (by omega), (by omega), (by omega), (by omega), (by omega), (lf_X7_loose_17 nhb nwb nkb hLv hfb hok hq haz hj_1 f_5_1_0 f_5_1_1 c_8 c_9 f_10_1_0), (lf_X7_loose_18 nhb nwb nkb hLv hfb hok hq haz hj_1 f_5_1_0 f_5_1_1 c_8 c_9 f_10_1_0), (lf_X7_loose_19 nhb nwb nkb hLv hfb hok hq haz hj_1 f_5_1_0 f_5_1_1 c_8 c_9 f_10_1_0)⟩⟩, hS.F ht⟩) hS.2.2 dX7_loose_49
        · skip
          refine lv_ldc (own := RX7) (v := (-1000001)) hx hb hown (hts _ mx_X7_loose_2) dX7_loose_33 ?_
          have hX9 := cut2P (cx := [(xo_7_rrrrrrrrrii x ro ta no ac im tr pl cs ak xf xg), (xo_3_iiiiiiiirrrrr no nv0 nv1 nv2 nv3 (nI nhh) nv5 (nI nww) (nI nkk) nb1 nb2 nb3 nb4 nb5), (xI nb1 cI 6 ng1), (xI nb2 cI 6 ng2), (xI nb3 cI 6 ng3), (xI nb4 cI 6 ng4), (xI nb5 cI 6 ng5), (xo_0_rii ac be (nI q) (nI az)), (xJ be cL 24 fb)]) hP hD [0, 1, 2, 3, 4, 5, 6, 7, 8] (by decide +kernel) rfl
          exact W.iret (v := (-1000001)) hx hb hr (fun t ht hW => ⟨⟨(-1000001), (), rfl, (lf_X7_loose_24 nhb nwb nkb hLv hfb hok hq haz hj_1 f_5_1_0 f_5_1_1 c_8 c_9), ⟨V, G, nv0, nv1, nv2, nv3, nv5, ng1, ng2, ng3, ng4, ng5, nhh, nww, nkk, q, az, va_Ht ht hX9.1, hX9.2, hok, (by omega), (by omega), (by omega), (by omega), (by omega), (lf_X7_loose_21 nhb nwb nkb hLv hfb hok hq haz hj_1 f_5_1_0 f_5_1_1 c_8 c_9), (lf_X7_loose_22 nhb nwb nkb hLv hfb hok hq haz hj_1 f_5_1_0 f_5_1_1 c_8 c_9), (lf_X7_loose_23 nhb nwb nkb hLv hfb hok hq haz hj_1 f_5_1_0 f_5_1_1 c_8 c_9)⟩⟩, hS.F ht⟩) hS.2.2 dX7_loose_35
set_option maxHeartbeats 60000 in
theorem lf_X7_sell_1 {nv0 : Int32} {nv1 : Int32} {nv2 : Int32} {nv3 : Int32} {nv5 : Int32} {nhh : Nat} {nww : Nat} {nkk : Nat} {ng1 : Nat → Int32} {ng2 : Nat → Int32} {ng3 : Nat → Int32} {ng4 : Nat → Int32} {ng5 : Nat → Int32} {q : Nat} {az : Nat} {fb : Nat → Option Nat} {ad : Nat → Nat} {V : Nat → Nat → Int32} {k0 : Int32} (nhb : nhh ≤ 999) (nwb : nww ≤ 6) (nkb : nkk ≤ 6) (hLv : okLv (nrm nv0 nv1 nv2 nv3 nhh nv5 nww nkk ng1 ng2 ng3 ng4 ng5)) (hfb : ∀ i : Nat, i < 24 → fb i = some (ad i)) (hok : ∀ i : Nat, i < 24 → okL (V i)) (hq : q < 24) (haz : az ≤ 24) (f_1_0_0 : ¬ 0 < nv0) : (nrm nv0 nv1 nv2 nv3 nhh nv5 nww nkk ng1 ng2 ng3 ng4 ng5) = n_sell (nrm nv0 nv1 nv2 nv3 nhh nv5 nww nkk ng1 ng2 ng3 ng4 ng5) k0 := by
  first
  | with_reducible exact se_l (se_g0 (hz_0 hLv nhb nwb nkb f_1_0_0))
  | with_reducible exact kz_n (se_g0 (hz_0 hLv nhb nwb nkb f_1_0_0))
  | with_reducible exact kc_n (se_g0 (hz_0 hLv nhb nwb nkb f_1_0_0))
  | with_reducible exact se_a0 (hz_0 hLv nhb nwb nkb f_1_0_0)
  | omega
set_option maxHeartbeats 60000 in
theorem lf_X7_sell_2 {nv0 : Int32} {nv1 : Int32} {nv2 : Int32} {nv3 : Int32} {nv5 : Int32} {nhh : Nat} {nww : Nat} {nkk : Nat} {ng1 : Nat → Int32} {ng2 : Nat → Int32} {ng3 : Nat → Int32} {ng4 : Nat → Int32} {ng5 : Nat → Int32} {q : Nat} {az : Nat} {fb : Nat → Option Nat} {ad : Nat → Nat} {V : Nat → Nat → Int32} {k0 : Int32} (nhb : nhh ≤ 999) (nwb : nww ≤ 6) (nkb : nkk ≤ 6) (hLv : okLv (nrm nv0 nv1 nv2 nv3 nhh nv5 nww nkk ng1 ng2 ng3 ng4 ng5)) (hfb : ∀ i : Nat, i < 24 → fb i = some (ad i)) (hok : ∀ i : Nat, i < 24 → okL (V i)) (hq : q < 24) (haz : az ≤ 24) (f_1_0_0 : ¬ 0 < nv0) : az = kpN (gd_sell (nrm nv0 nv1 nv2 nv3 nhh nv5 nww nkk ng1 ng2 ng3 ng4 ng5) k0) az := by
  first
  | with_reducible exact se_l (se_g0 (hz_0 hLv nhb nwb nkb f_1_0_0))
  | with_reducible exact kz_n (se_g0 (hz_0 hLv nhb nwb nkb f_1_0_0))
  | with_reducible exact kc_n (se_g0 (hz_0 hLv nhb nwb nkb f_1_0_0))
  | with_reducible exact se_a0 (hz_0 hLv nhb nwb nkb f_1_0_0)
  | omega
set_option maxHeartbeats 60000 in
theorem lf_X7_sell_3 {nv0 : Int32} {nv1 : Int32} {nv2 : Int32} {nv3 : Int32} {nv5 : Int32} {nhh : Nat} {nww : Nat} {nkk : Nat} {ng1 : Nat → Int32} {ng2 : Nat → Int32} {ng3 : Nat → Int32} {ng4 : Nat → Int32} {ng5 : Nat → Int32} {q : Nat} {az : Nat} {fb : Nat → Option Nat} {ad : Nat → Nat} {V : Nat → Nat → Int32} {G : Nat → Nat → Nat → Int32} {k0 : Int32} (nhb : nhh ≤ 999) (nwb : nww ≤ 6) (nkb : nkk ≤ 6) (hLv : okLv (nrm nv0 nv1 nv2 nv3 nhh nv5 nww nkk ng1 ng2 ng3 ng4 ng5)) (hfb : ∀ i : Nat, i < 24 → fb i = some (ad i)) (hok : ∀ i : Nat, i < 24 → okL (V i)) (hq : q < 24) (haz : az ≤ 24) (f_1_0_0 : ¬ 0 < nv0) : acX q az V G = kpA (gd_sell (nrm nv0 nv1 nv2 nv3 nhh nv5 nww nkk ng1 ng2 ng3 ng4 ng5) k0) (nrm nv0 nv1 nv2 nv3 nhh nv5 nww nkk ng1 ng2 ng3 ng4 ng5) az (acX q az V G) := by
  first
  | with_reducible exact se_l (se_g0 (hz_0 hLv nhb nwb nkb f_1_0_0))
  | with_reducible exact kz_n (se_g0 (hz_0 hLv nhb nwb nkb f_1_0_0))
  | with_reducible exact kc_n (se_g0 (hz_0 hLv nhb nwb nkb f_1_0_0))
  | with_reducible exact se_a0 (hz_0 hLv nhb nwb nkb f_1_0_0)
  | omega
set_option maxHeartbeats 60000 in
theorem lf_X7_sell_4 {nv0 : Int32} {nv1 : Int32} {nv2 : Int32} {nv3 : Int32} {nv5 : Int32} {nhh : Nat} {nww : Nat} {nkk : Nat} {ng1 : Nat → Int32} {ng2 : Nat → Int32} {ng3 : Nat → Int32} {ng4 : Nat → Int32} {ng5 : Nat → Int32} {q : Nat} {az : Nat} {fb : Nat → Option Nat} {ad : Nat → Nat} {V : Nat → Nat → Int32} {k0 : Int32} (nhb : nhh ≤ 999) (nwb : nww ≤ 6) (nkb : nkk ≤ 6) (hLv : okLv (nrm nv0 nv1 nv2 nv3 nhh nv5 nww nkk ng1 ng2 ng3 ng4 ng5)) (hfb : ∀ i : Nat, i < 24 → fb i = some (ad i)) (hok : ∀ i : Nat, i < 24 → okL (V i)) (hq : q < 24) (haz : az ≤ 24) (f_1_0_0 : ¬ 0 < nv0) : (-1000002) = (a_sell (nrm nv0 nv1 nv2 nv3 nhh nv5 nww nkk ng1 ng2 ng3 ng4 ng5) k0) := by
  first
  | with_reducible exact se_l (se_g0 (hz_0 hLv nhb nwb nkb f_1_0_0))
  | with_reducible exact kz_n (se_g0 (hz_0 hLv nhb nwb nkb f_1_0_0))
  | with_reducible exact kc_n (se_g0 (hz_0 hLv nhb nwb nkb f_1_0_0))
  | with_reducible exact se_a0 (hz_0 hLv nhb nwb nkb f_1_0_0)
  | omega
set_option maxHeartbeats 60000 in
theorem lf_X7_sell_5 {nv0 : Int32} {nv1 : Int32} {nv2 : Int32} {nv3 : Int32} {nv5 : Int32} {nhh : Nat} {nww : Nat} {nkk : Nat} {ng1 : Nat → Int32} {ng2 : Nat → Int32} {ng3 : Nat → Int32} {ng4 : Nat → Int32} {ng5 : Nat → Int32} {q : Nat} {az : Nat} {fb : Nat → Option Nat} {ad : Nat → Nat} {V : Nat → Nat → Int32} {k0 : Int32} (nhb : nhh ≤ 999) (nwb : nww ≤ 6) (nkb : nkk ≤ 6) (hLv : okLv (nrm nv0 nv1 nv2 nv3 nhh nv5 nww nkk ng1 ng2 ng3 ng4 ng5)) (hfb : ∀ i : Nat, i < 24 → fb i = some (ad i)) (hok : ∀ i : Nat, i < 24 → okL (V i)) (hq : q < 24) (haz : az ≤ 24) (f_1_1_0 : 0 < nv0) (c_4 : k0 < 1) : (nrm nv0 nv1 nv2 nv3 nhh nv5 nww nkk ng1 ng2 ng3 ng4 ng5) = n_sell (nrm nv0 nv1 nv2 nv3 nhh nv5 nww nkk ng1 ng2 ng3 ng4 ng5) k0 := by
  first
  | with_reducible exact se_l (se_g1 c_4)
  | with_reducible exact kz_n (se_g1 c_4)
  | with_reducible exact kc_n (se_g1 c_4)
  | with_reducible exact se_a1 (hz_1 hLv nhb nwb nkb f_1_1_0) (Or.inl c_4)
  | omega
set_option maxHeartbeats 60000 in
theorem lf_X7_sell_6 {nv0 : Int32} {nv1 : Int32} {nv2 : Int32} {nv3 : Int32} {nv5 : Int32} {nhh : Nat} {nww : Nat} {nkk : Nat} {ng1 : Nat → Int32} {ng2 : Nat → Int32} {ng3 : Nat → Int32} {ng4 : Nat → Int32} {ng5 : Nat → Int32} {q : Nat} {az : Nat} {fb : Nat → Option Nat} {ad : Nat → Nat} {V : Nat → Nat → Int32} {k0 : Int32} (nhb : nhh ≤ 999) (nwb : nww ≤ 6) (nkb : nkk ≤ 6) (hLv : okLv (nrm nv0 nv1 nv2 nv3 nhh nv5 nww nkk ng1 ng2 ng3 ng4 ng5)) (hfb : ∀ i : Nat, i < 24 → fb i = some (ad i)) (hok : ∀ i : Nat, i < 24 → okL (V i)) (hq : q < 24) (haz : az ≤ 24) (f_1_1_0 : 0 < nv0) (c_4 : k0 < 1) : az = kpN (gd_sell (nrm nv0 nv1 nv2 nv3 nhh nv5 nww nkk ng1 ng2 ng3 ng4 ng5) k0) az := by
  first
  | with_reducible exact se_l (se_g1 c_4)
  | with_reducible exact kz_n (se_g1 c_4)
  | with_reducible exact kc_n (se_g1 c_4)
  | with_reducible exact se_a1 (hz_1 hLv nhb nwb nkb f_1_1_0) (Or.inl c_4)
  | omega
set_option maxHeartbeats 60000 in
theorem lf_X7_sell_7 {nv0 : Int32} {nv1 : Int32} {nv2 : Int32} {nv3 : Int32} {nv5 : Int32} {nhh : Nat} {nww : Nat} {nkk : Nat} {ng1 : Nat → Int32} {ng2 : Nat → Int32} {ng3 : Nat → Int32} {ng4 : Nat → Int32} {ng5 : Nat → Int32} {q : Nat} {az : Nat} {fb : Nat → Option Nat} {ad : Nat → Nat} {V : Nat → Nat → Int32} {G : Nat → Nat → Nat → Int32} {k0 : Int32} (nhb : nhh ≤ 999) (nwb : nww ≤ 6) (nkb : nkk ≤ 6) (hLv : okLv (nrm nv0 nv1 nv2 nv3 nhh nv5 nww nkk ng1 ng2 ng3 ng4 ng5)) (hfb : ∀ i : Nat, i < 24 → fb i = some (ad i)) (hok : ∀ i : Nat, i < 24 → okL (V i)) (hq : q < 24) (haz : az ≤ 24) (f_1_1_0 : 0 < nv0) (c_4 : k0 < 1) : acX q az V G = kpA (gd_sell (nrm nv0 nv1 nv2 nv3 nhh nv5 nww nkk ng1 ng2 ng3 ng4 ng5) k0) (nrm nv0 nv1 nv2 nv3 nhh nv5 nww nkk ng1 ng2 ng3 ng4 ng5) az (acX q az V G) := by
  first
  | with_reducible exact se_l (se_g1 c_4)
  | with_reducible exact kz_n (se_g1 c_4)
  | with_reducible exact kc_n (se_g1 c_4)
  | with_reducible exact se_a1 (hz_1 hLv nhb nwb nkb f_1_1_0) (Or.inl c_4)
  | omega
set_option maxHeartbeats 60000 in
theorem lf_X7_sell_8 {nv0 : Int32} {nv1 : Int32} {nv2 : Int32} {nv3 : Int32} {nv5 : Int32} {nhh : Nat} {nww : Nat} {nkk : Nat} {ng1 : Nat → Int32} {ng2 : Nat → Int32} {ng3 : Nat → Int32} {ng4 : Nat → Int32} {ng5 : Nat → Int32} {q : Nat} {az : Nat} {fb : Nat → Option Nat} {ad : Nat → Nat} {V : Nat → Nat → Int32} {k0 : Int32} (nhb : nhh ≤ 999) (nwb : nww ≤ 6) (nkb : nkk ≤ 6) (hLv : okLv (nrm nv0 nv1 nv2 nv3 nhh nv5 nww nkk ng1 ng2 ng3 ng4 ng5)) (hfb : ∀ i : Nat, i < 24 → fb i = some (ad i)) (hok : ∀ i : Nat, i < 24 → okL (V i)) (hq : q < 24) (haz : az ≤ 24) (f_1_1_0 : 0 < nv0) (c_4 : k0 < 1) : (-1000001) = (a_sell (nrm nv0 nv1 nv2 nv3 nhh nv5 nww nkk ng1 ng2 ng3 ng4 ng5) k0) := by
  first
  | with_reducible exact se_l (se_g1 c_4)
  | with_reducible exact kz_n (se_g1 c_4)
  | with_reducible exact kc_n (se_g1 c_4)
  | with_reducible exact se_a1 (hz_1 hLv nhb nwb nkb f_1_1_0) (Or.inl c_4)
  | omega
set_option maxHeartbeats 60000 in
theorem lf_X7_sell_9 {nv0 : Int32} {nv1 : Int32} {nv2 : Int32} {nv3 : Int32} {nv5 : Int32} {nhh : Nat} {nww : Nat} {nkk : Nat} {ng1 : Nat → Int32} {ng2 : Nat → Int32} {ng3 : Nat → Int32} {ng4 : Nat → Int32} {ng5 : Nat → Int32} {q : Nat} {az : Nat} {fb : Nat → Option Nat} {ad : Nat → Nat} {V : Nat → Nat → Int32} {G : Nat → Nat → Nat → Int32} {k0 : Int32} {Vn_7 : Nat → Nat → Int32} {Gn_7 : Nat → Nat → Nat → Int32} {qn_7 : Nat} {zn_7 : Nat} {v_8 : Int32} (nhb : nhh ≤ 999) (nwb : nww ≤ 6) (nkb : nkk ≤ 6) (hLv : okLv (nrm nv0 nv1 nv2 nv3 nhh nv5 nww nkk ng1 ng2 ng3 ng4 ng5)) (hfb : ∀ i : Nat, i < 24 → fb i = some (ad i)) (hok : ∀ i : Nat, i < 24 → okL (V i)) (hq : q < 24) (haz : az ≤ 24) (f_1_1_0 : 0 < nv0) (c_4 : ¬ (k0 < 1)) (c_5 : k0 ≤ 999) (c_6 : k0 ≤ nv5) (hF_7_0 : (∀ i : Nat, i < 24 → okL (Vn_7 i))) (hF_7_1 : qn_7 < 24) (hF_7_2 : zn_7 ≤ 24) (hF_7_3 : nrV (Vn_7 q) (Gn_7 q) = (nrm nv0 nv1 nv2 nv3 nhh nv5 nww nkk ng1 ng2 ng3 ng4 ng5)) (hF_7_4 : (∀ i : Nat, i < 24 → i ≠ q → nrV (Vn_7 i) (Gn_7 i) = nrV (V i) (G i))) (hF_7_5 : qn_7 = (q + 1) % 24) (hF_7_6 : zn_7 = ntN az) (e_8 : v_8 = (nv5 - k0)) : (nrm nv0 nv1 nv2 nv3 nhh v_8 nww nkk ng1 ng2 ng3 ng4 ng5) = n_sell (nrm nv0 nv1 nv2 nv3 nhh nv5 nww nkk ng1 ng2 ng3 ng4 ng5) k0 := by
  first
  | with_reducible exact se_l (se_g1 c_4)
  | with_reducible exact kz_n (se_g1 c_4)
  | with_reducible exact kc_n (se_g1 c_4)
  | with_reducible exact se_a1 (hz_1 hLv nhb nwb nkb f_1_1_0) (Or.inl c_4)
  | with_reducible exact se_l (se_g2 c_5)
  | with_reducible exact kz_n (se_g2 c_5)
  | with_reducible exact kc_n (se_g2 c_5)
  | with_reducible exact se_a1 (hz_1 hLv nhb nwb nkb f_1_1_0) (Or.inr (i_nle.mp c_5))
  | with_reducible exact se_l (se_g3 c_6)
  | with_reducible exact kz_n (se_g3 c_6)
  | with_reducible exact kc_n (se_g3 c_6)
  | with_reducible exact se_a3 (hz_1 hLv nhb nwb nkb f_1_1_0) c_4 c_5 c_6
  | with_reducible exact se_L (se_p (hz_1 hLv nhb nwb nkb f_1_1_0) c_4 c_5 c_6) e_8
  | with_reducible exact kz_p (se_p (hz_1 hLv nhb nwb nkb f_1_1_0) c_4 c_5 c_6) hF_7_6
  | with_reducible exact kc_p (se_p (hz_1 hLv nhb nwb nkb f_1_1_0) c_4 c_5 c_6) hq haz hF_7_3 hF_7_4 hF_7_5 hF_7_6
  | with_reducible exact se_A (se_p (hz_1 hLv nhb nwb nkb f_1_1_0) c_4 c_5 c_6) e_8
  | omega
set_option maxHeartbeats 60000 in
theorem lf_X7_sell_10 {nv0 : Int32} {nv1 : Int32} {nv2 : Int32} {nv3 : Int32} {nv5 : Int32} {nhh : Nat} {nww : Nat} {nkk : Nat} {ng1 : Nat → Int32} {ng2 : Nat → Int32} {ng3 : Nat → Int32} {ng4 : Nat → Int32} {ng5 : Nat → Int32} {q : Nat} {az : Nat} {fb : Nat → Option Nat} {ad : Nat → Nat} {V : Nat → Nat → Int32} {G : Nat → Nat → Nat → Int32} {k0 : Int32} {Vn_7 : Nat → Nat → Int32} {Gn_7 : Nat → Nat → Nat → Int32} {qn_7 : Nat} {zn_7 : Nat} {v_8 : Int32} (nhb : nhh ≤ 999) (nwb : nww ≤ 6) (nkb : nkk ≤ 6) (hLv : okLv (nrm nv0 nv1 nv2 nv3 nhh nv5 nww nkk ng1 ng2 ng3 ng4 ng5)) (hfb : ∀ i : Nat, i < 24 → fb i = some (ad i)) (hok : ∀ i : Nat, i < 24 → okL (V i)) (hq : q < 24) (haz : az ≤ 24) (f_1_1_0 : 0 < nv0) (c_4 : ¬ (k0 < 1)) (c_5 : k0 ≤ 999) (c_6 : k0 ≤ nv5) (hF_7_0 : (∀ i : Nat, i < 24 → okL (Vn_7 i))) (hF_7_1 : qn_7 < 24) (hF_7_2 : zn_7 ≤ 24) (hF_7_3 : nrV (Vn_7 q) (Gn_7 q) = (nrm nv0 nv1 nv2 nv3 nhh nv5 nww nkk ng1 ng2 ng3 ng4 ng5)) (hF_7_4 : (∀ i : Nat, i < 24 → i ≠ q → nrV (Vn_7 i) (Gn_7 i) = nrV (V i) (G i))) (hF_7_5 : qn_7 = (q + 1) % 24) (hF_7_6 : zn_7 = ntN az) (e_8 : v_8 = (nv5 - k0)) : zn_7 = kpN (gd_sell (nrm nv0 nv1 nv2 nv3 nhh nv5 nww nkk ng1 ng2 ng3 ng4 ng5) k0) az := by
  first
  | with_reducible exact se_l (se_g1 c_4)
  | with_reducible exact kz_n (se_g1 c_4)
  | with_reducible exact kc_n (se_g1 c_4)
  | with_reducible exact se_a1 (hz_1 hLv nhb nwb nkb f_1_1_0) (Or.inl c_4)
  | with_reducible exact se_l (se_g2 c_5)
  | with_reducible exact kz_n (se_g2 c_5)
  | with_reducible exact kc_n (se_g2 c_5)
  | with_reducible exact se_a1 (hz_1 hLv nhb nwb nkb f_1_1_0) (Or.inr (i_nle.mp c_5))
  | with_reducible exact se_l (se_g3 c_6)
  | with_reducible exact kz_n (se_g3 c_6)
  | with_reducible exact kc_n (se_g3 c_6)
  | with_reducible exact se_a3 (hz_1 hLv nhb nwb nkb f_1_1_0) c_4 c_5 c_6
  | with_reducible exact se_L (se_p (hz_1 hLv nhb nwb nkb f_1_1_0) c_4 c_5 c_6) e_8
  | with_reducible exact kz_p (se_p (hz_1 hLv nhb nwb nkb f_1_1_0) c_4 c_5 c_6) hF_7_6
  | with_reducible exact kc_p (se_p (hz_1 hLv nhb nwb nkb f_1_1_0) c_4 c_5 c_6) hq haz hF_7_3 hF_7_4 hF_7_5 hF_7_6
  | with_reducible exact se_A (se_p (hz_1 hLv nhb nwb nkb f_1_1_0) c_4 c_5 c_6) e_8
  | omega
set_option maxHeartbeats 60000 in
theorem lf_X7_sell_11 {nv0 : Int32} {nv1 : Int32} {nv2 : Int32} {nv3 : Int32} {nv5 : Int32} {nhh : Nat} {nww : Nat} {nkk : Nat} {ng1 : Nat → Int32} {ng2 : Nat → Int32} {ng3 : Nat → Int32} {ng4 : Nat → Int32} {ng5 : Nat → Int32} {q : Nat} {az : Nat} {fb : Nat → Option Nat} {ad : Nat → Nat} {V : Nat → Nat → Int32} {G : Nat → Nat → Nat → Int32} {k0 : Int32} {Vn_7 : Nat → Nat → Int32} {Gn_7 : Nat → Nat → Nat → Int32} {qn_7 : Nat} {zn_7 : Nat} {v_8 : Int32} (nhb : nhh ≤ 999) (nwb : nww ≤ 6) (nkb : nkk ≤ 6) (hLv : okLv (nrm nv0 nv1 nv2 nv3 nhh nv5 nww nkk ng1 ng2 ng3 ng4 ng5)) (hfb : ∀ i : Nat, i < 24 → fb i = some (ad i)) (hok : ∀ i : Nat, i < 24 → okL (V i)) (hq : q < 24) (haz : az ≤ 24) (f_1_1_0 : 0 < nv0) (c_4 : ¬ (k0 < 1)) (c_5 : k0 ≤ 999) (c_6 : k0 ≤ nv5) (hF_7_0 : (∀ i : Nat, i < 24 → okL (Vn_7 i))) (hF_7_1 : qn_7 < 24) (hF_7_2 : zn_7 ≤ 24) (hF_7_3 : nrV (Vn_7 q) (Gn_7 q) = (nrm nv0 nv1 nv2 nv3 nhh nv5 nww nkk ng1 ng2 ng3 ng4 ng5)) (hF_7_4 : (∀ i : Nat, i < 24 → i ≠ q → nrV (Vn_7 i) (Gn_7 i) = nrV (V i) (G i))) (hF_7_5 : qn_7 = (q + 1) % 24) (hF_7_6 : zn_7 = ntN az) (e_8 : v_8 = (nv5 - k0)) : acX qn_7 zn_7 Vn_7 Gn_7 = kpA (gd_sell (nrm nv0 nv1 nv2 nv3 nhh nv5 nww nkk ng1 ng2 ng3 ng4 ng5) k0) (nrm nv0 nv1 nv2 nv3 nhh nv5 nww nkk ng1 ng2 ng3 ng4 ng5) az (acX q az V G) := by
  first
  | with_reducible exact se_l (se_g1 c_4)
  | with_reducible exact kz_n (se_g1 c_4)
  | with_reducible exact kc_n (se_g1 c_4)
  | with_reducible exact se_a1 (hz_1 hLv nhb nwb nkb f_1_1_0) (Or.inl c_4)
  | with_reducible exact se_l (se_g2 c_5)
  | with_reducible exact kz_n (se_g2 c_5)
  | with_reducible exact kc_n (se_g2 c_5)
  | with_reducible exact se_a1 (hz_1 hLv nhb nwb nkb f_1_1_0) (Or.inr (i_nle.mp c_5))
  | with_reducible exact se_l (se_g3 c_6)
  | with_reducible exact kz_n (se_g3 c_6)
  | with_reducible exact kc_n (se_g3 c_6)
  | with_reducible exact se_a3 (hz_1 hLv nhb nwb nkb f_1_1_0) c_4 c_5 c_6
  | with_reducible exact se_L (se_p (hz_1 hLv nhb nwb nkb f_1_1_0) c_4 c_5 c_6) e_8
  | with_reducible exact kz_p (se_p (hz_1 hLv nhb nwb nkb f_1_1_0) c_4 c_5 c_6) hF_7_6
  | with_reducible exact kc_p (se_p (hz_1 hLv nhb nwb nkb f_1_1_0) c_4 c_5 c_6) hq haz hF_7_3 hF_7_4 hF_7_5 hF_7_6
  | with_reducible exact se_A (se_p (hz_1 hLv nhb nwb nkb f_1_1_0) c_4 c_5 c_6) e_8
  | omega
set_option maxHeartbeats 60000 in
theorem lf_X7_sell_12 {nv0 : Int32} {nv1 : Int32} {nv2 : Int32} {nv3 : Int32} {nv5 : Int32} {nhh : Nat} {nww : Nat} {nkk : Nat} {ng1 : Nat → Int32} {ng2 : Nat → Int32} {ng3 : Nat → Int32} {ng4 : Nat → Int32} {ng5 : Nat → Int32} {q : Nat} {az : Nat} {fb : Nat → Option Nat} {ad : Nat → Nat} {V : Nat → Nat → Int32} {G : Nat → Nat → Nat → Int32} {k0 : Int32} {Vn_7 : Nat → Nat → Int32} {Gn_7 : Nat → Nat → Nat → Int32} {qn_7 : Nat} {zn_7 : Nat} {v_8 : Int32} (nhb : nhh ≤ 999) (nwb : nww ≤ 6) (nkb : nkk ≤ 6) (hLv : okLv (nrm nv0 nv1 nv2 nv3 nhh nv5 nww nkk ng1 ng2 ng3 ng4 ng5)) (hfb : ∀ i : Nat, i < 24 → fb i = some (ad i)) (hok : ∀ i : Nat, i < 24 → okL (V i)) (hq : q < 24) (haz : az ≤ 24) (f_1_1_0 : 0 < nv0) (c_4 : ¬ (k0 < 1)) (c_5 : k0 ≤ 999) (c_6 : k0 ≤ nv5) (hF_7_0 : (∀ i : Nat, i < 24 → okL (Vn_7 i))) (hF_7_1 : qn_7 < 24) (hF_7_2 : zn_7 ≤ 24) (hF_7_3 : nrV (Vn_7 q) (Gn_7 q) = (nrm nv0 nv1 nv2 nv3 nhh nv5 nww nkk ng1 ng2 ng3 ng4 ng5)) (hF_7_4 : (∀ i : Nat, i < 24 → i ≠ q → nrV (Vn_7 i) (Gn_7 i) = nrV (V i) (G i))) (hF_7_5 : qn_7 = (q + 1) % 24) (hF_7_6 : zn_7 = ntN az) (e_8 : v_8 = (nv5 - k0)) : v_8 = (a_sell (nrm nv0 nv1 nv2 nv3 nhh nv5 nww nkk ng1 ng2 ng3 ng4 ng5) k0) := by
  first
  | with_reducible exact se_l (se_g1 c_4)
  | with_reducible exact kz_n (se_g1 c_4)
  | with_reducible exact kc_n (se_g1 c_4)
  | with_reducible exact se_a1 (hz_1 hLv nhb nwb nkb f_1_1_0) (Or.inl c_4)
  | with_reducible exact se_l (se_g2 c_5)
  | with_reducible exact kz_n (se_g2 c_5)
  | with_reducible exact kc_n (se_g2 c_5)
  | with_reducible exact se_a1 (hz_1 hLv nhb nwb nkb f_1_1_0) (Or.inr (i_nle.mp c_5))
  | with_reducible exact se_l (se_g3 c_6)
  | with_reducible exact kz_n (se_g3 c_6)
  | with_reducible exact kc_n (se_g3 c_6)
  | with_reducible exact se_a3 (hz_1 hLv nhb nwb nkb f_1_1_0) c_4 c_5 c_6
  | with_reducible exact se_L (se_p (hz_1 hLv nhb nwb nkb f_1_1_0) c_4 c_5 c_6) e_8
  | with_reducible exact kz_p (se_p (hz_1 hLv nhb nwb nkb f_1_1_0) c_4 c_5 c_6) hF_7_6
  | with_reducible exact kc_p (se_p (hz_1 hLv nhb nwb nkb f_1_1_0) c_4 c_5 c_6) hq haz hF_7_3 hF_7_4 hF_7_5 hF_7_6
  | with_reducible exact se_A (se_p (hz_1 hLv nhb nwb nkb f_1_1_0) c_4 c_5 c_6) e_8
  | omega
set_option maxHeartbeats 60000 in
theorem lf_X7_sell_13 {nv0 : Int32} {nv1 : Int32} {nv2 : Int32} {nv3 : Int32} {nv5 : Int32} {nhh : Nat} {nww : Nat} {nkk : Nat} {ng1 : Nat → Int32} {ng2 : Nat → Int32} {ng3 : Nat → Int32} {ng4 : Nat → Int32} {ng5 : Nat → Int32} {q : Nat} {az : Nat} {fb : Nat → Option Nat} {ad : Nat → Nat} {V : Nat → Nat → Int32} {k0 : Int32} (nhb : nhh ≤ 999) (nwb : nww ≤ 6) (nkb : nkk ≤ 6) (hLv : okLv (nrm nv0 nv1 nv2 nv3 nhh nv5 nww nkk ng1 ng2 ng3 ng4 ng5)) (hfb : ∀ i : Nat, i < 24 → fb i = some (ad i)) (hok : ∀ i : Nat, i < 24 → okL (V i)) (hq : q < 24) (haz : az ≤ 24) (f_1_1_0 : 0 < nv0) (c_4 : ¬ (k0 < 1)) (c_5 : k0 ≤ 999) (c_6 : ¬ (k0 ≤ nv5)) : (nrm nv0 nv1 nv2 nv3 nhh nv5 nww nkk ng1 ng2 ng3 ng4 ng5) = n_sell (nrm nv0 nv1 nv2 nv3 nhh nv5 nww nkk ng1 ng2 ng3 ng4 ng5) k0 := by
  first
  | with_reducible exact se_l (se_g1 c_4)
  | with_reducible exact kz_n (se_g1 c_4)
  | with_reducible exact kc_n (se_g1 c_4)
  | with_reducible exact se_a1 (hz_1 hLv nhb nwb nkb f_1_1_0) (Or.inl c_4)
  | with_reducible exact se_l (se_g2 c_5)
  | with_reducible exact kz_n (se_g2 c_5)
  | with_reducible exact kc_n (se_g2 c_5)
  | with_reducible exact se_a1 (hz_1 hLv nhb nwb nkb f_1_1_0) (Or.inr (i_nle.mp c_5))
  | with_reducible exact se_l (se_g3 c_6)
  | with_reducible exact kz_n (se_g3 c_6)
  | with_reducible exact kc_n (se_g3 c_6)
  | with_reducible exact se_a3 (hz_1 hLv nhb nwb nkb f_1_1_0) c_4 c_5 c_6
  | omega
set_option maxHeartbeats 60000 in
theorem lf_X7_sell_14 {nv0 : Int32} {nv1 : Int32} {nv2 : Int32} {nv3 : Int32} {nv5 : Int32} {nhh : Nat} {nww : Nat} {nkk : Nat} {ng1 : Nat → Int32} {ng2 : Nat → Int32} {ng3 : Nat → Int32} {ng4 : Nat → Int32} {ng5 : Nat → Int32} {q : Nat} {az : Nat} {fb : Nat → Option Nat} {ad : Nat → Nat} {V : Nat → Nat → Int32} {k0 : Int32} (nhb : nhh ≤ 999) (nwb : nww ≤ 6) (nkb : nkk ≤ 6) (hLv : okLv (nrm nv0 nv1 nv2 nv3 nhh nv5 nww nkk ng1 ng2 ng3 ng4 ng5)) (hfb : ∀ i : Nat, i < 24 → fb i = some (ad i)) (hok : ∀ i : Nat, i < 24 → okL (V i)) (hq : q < 24) (haz : az ≤ 24) (f_1_1_0 : 0 < nv0) (c_4 : ¬ (k0 < 1)) (c_5 : k0 ≤ 999) (c_6 : ¬ (k0 ≤ nv5)) : az = kpN (gd_sell (nrm nv0 nv1 nv2 nv3 nhh nv5 nww nkk ng1 ng2 ng3 ng4 ng5) k0) az := by
  first
  | with_reducible exact se_l (se_g1 c_4)
  | with_reducible exact kz_n (se_g1 c_4)
  | with_reducible exact kc_n (se_g1 c_4)
  | with_reducible exact se_a1 (hz_1 hLv nhb nwb nkb f_1_1_0) (Or.inl c_4)
  | with_reducible exact se_l (se_g2 c_5)
  | with_reducible exact kz_n (se_g2 c_5)
  | with_reducible exact kc_n (se_g2 c_5)
  | with_reducible exact se_a1 (hz_1 hLv nhb nwb nkb f_1_1_0) (Or.inr (i_nle.mp c_5))
  | with_reducible exact se_l (se_g3 c_6)
  | with_reducible exact kz_n (se_g3 c_6)
  | with_reducible exact kc_n (se_g3 c_6)
  | with_reducible exact se_a3 (hz_1 hLv nhb nwb nkb f_1_1_0) c_4 c_5 c_6
  | omega
set_option maxHeartbeats 60000 in
theorem lf_X7_sell_15 {nv0 : Int32} {nv1 : Int32} {nv2 : Int32} {nv3 : Int32} {nv5 : Int32} {nhh : Nat} {nww : Nat} {nkk : Nat} {ng1 : Nat → Int32} {ng2 : Nat → Int32} {ng3 : Nat → Int32} {ng4 : Nat → Int32} {ng5 : Nat → Int32} {q : Nat} {az : Nat} {fb : Nat → Option Nat} {ad : Nat → Nat} {V : Nat → Nat → Int32} {G : Nat → Nat → Nat → Int32} {k0 : Int32} (nhb : nhh ≤ 999) (nwb : nww ≤ 6) (nkb : nkk ≤ 6) (hLv : okLv (nrm nv0 nv1 nv2 nv3 nhh nv5 nww nkk ng1 ng2 ng3 ng4 ng5)) (hfb : ∀ i : Nat, i < 24 → fb i = some (ad i)) (hok : ∀ i : Nat, i < 24 → okL (V i)) (hq : q < 24) (haz : az ≤ 24) (f_1_1_0 : 0 < nv0) (c_4 : ¬ (k0 < 1)) (c_5 : k0 ≤ 999) (c_6 : ¬ (k0 ≤ nv5)) : acX q az V G = kpA (gd_sell (nrm nv0 nv1 nv2 nv3 nhh nv5 nww nkk ng1 ng2 ng3 ng4 ng5) k0) (nrm nv0 nv1 nv2 nv3 nhh nv5 nww nkk ng1 ng2 ng3 ng4 ng5) az (acX q az V G) := by
  first
  | with_reducible exact se_l (se_g1 c_4)
  | with_reducible exact kz_n (se_g1 c_4)
  | with_reducible exact kc_n (se_g1 c_4)
  | with_reducible exact se_a1 (hz_1 hLv nhb nwb nkb f_1_1_0) (Or.inl c_4)
  | with_reducible exact se_l (se_g2 c_5)
  | with_reducible exact kz_n (se_g2 c_5)
  | with_reducible exact kc_n (se_g2 c_5)
  | with_reducible exact se_a1 (hz_1 hLv nhb nwb nkb f_1_1_0) (Or.inr (i_nle.mp c_5))
  | with_reducible exact se_l (se_g3 c_6)
  | with_reducible exact kz_n (se_g3 c_6)
  | with_reducible exact kc_n (se_g3 c_6)
  | with_reducible exact se_a3 (hz_1 hLv nhb nwb nkb f_1_1_0) c_4 c_5 c_6
  | omega
set_option maxHeartbeats 60000 in
theorem lf_X7_sell_16 {nv0 : Int32} {nv1 : Int32} {nv2 : Int32} {nv3 : Int32} {nv5 : Int32} {nhh : Nat} {nww : Nat} {nkk : Nat} {ng1 : Nat → Int32} {ng2 : Nat → Int32} {ng3 : Nat → Int32} {ng4 : Nat → Int32} {ng5 : Nat → Int32} {q : Nat} {az : Nat} {fb : Nat → Option Nat} {ad : Nat → Nat} {V : Nat → Nat → Int32} {k0 : Int32} (nhb : nhh ≤ 999) (nwb : nww ≤ 6) (nkb : nkk ≤ 6) (hLv : okLv (nrm nv0 nv1 nv2 nv3 nhh nv5 nww nkk ng1 ng2 ng3 ng4 ng5)) (hfb : ∀ i : Nat, i < 24 → fb i = some (ad i)) (hok : ∀ i : Nat, i < 24 → okL (V i)) (hq : q < 24) (haz : az ≤ 24) (f_1_1_0 : 0 < nv0) (c_4 : ¬ (k0 < 1)) (c_5 : k0 ≤ 999) (c_6 : ¬ (k0 ≤ nv5)) : (-1000002) = (a_sell (nrm nv0 nv1 nv2 nv3 nhh nv5 nww nkk ng1 ng2 ng3 ng4 ng5) k0) := by
  first
  | with_reducible exact se_l (se_g1 c_4)
  | with_reducible exact kz_n (se_g1 c_4)
  | with_reducible exact kc_n (se_g1 c_4)
  | with_reducible exact se_a1 (hz_1 hLv nhb nwb nkb f_1_1_0) (Or.inl c_4)
  | with_reducible exact se_l (se_g2 c_5)
  | with_reducible exact kz_n (se_g2 c_5)
  | with_reducible exact kc_n (se_g2 c_5)
  | with_reducible exact se_a1 (hz_1 hLv nhb nwb nkb f_1_1_0) (Or.inr (i_nle.mp c_5))
  | with_reducible exact se_l (se_g3 c_6)
  | with_reducible exact kz_n (se_g3 c_6)
  | with_reducible exact kc_n (se_g3 c_6)
  | with_reducible exact se_a3 (hz_1 hLv nhb nwb nkb f_1_1_0) c_4 c_5 c_6
  | omega
set_option maxHeartbeats 60000 in
theorem lf_X7_sell_17 {nv0 : Int32} {nv1 : Int32} {nv2 : Int32} {nv3 : Int32} {nv5 : Int32} {nhh : Nat} {nww : Nat} {nkk : Nat} {ng1 : Nat → Int32} {ng2 : Nat → Int32} {ng3 : Nat → Int32} {ng4 : Nat → Int32} {ng5 : Nat → Int32} {q : Nat} {az : Nat} {fb : Nat → Option Nat} {ad : Nat → Nat} {V : Nat → Nat → Int32} {k0 : Int32} (nhb : nhh ≤ 999) (nwb : nww ≤ 6) (nkb : nkk ≤ 6) (hLv : okLv (nrm nv0 nv1 nv2 nv3 nhh nv5 nww nkk ng1 ng2 ng3 ng4 ng5)) (hfb : ∀ i : Nat, i < 24 → fb i = some (ad i)) (hok : ∀ i : Nat, i < 24 → okL (V i)) (hq : q < 24) (haz : az ≤ 24) (f_1_1_0 : 0 < nv0) (c_4 : ¬ (k0 < 1)) (c_5 : ¬ (k0 ≤ 999)) : (nrm nv0 nv1 nv2 nv3 nhh nv5 nww nkk ng1 ng2 ng3 ng4 ng5) = n_sell (nrm nv0 nv1 nv2 nv3 nhh nv5 nww nkk ng1 ng2 ng3 ng4 ng5) k0 := by
  first
  | with_reducible exact se_l (se_g1 c_4)
  | with_reducible exact kz_n (se_g1 c_4)
  | with_reducible exact kc_n (se_g1 c_4)
  | with_reducible exact se_a1 (hz_1 hLv nhb nwb nkb f_1_1_0) (Or.inl c_4)
  | with_reducible exact se_l (se_g2 c_5)
  | with_reducible exact kz_n (se_g2 c_5)
  | with_reducible exact kc_n (se_g2 c_5)
  | with_reducible exact se_a1 (hz_1 hLv nhb nwb nkb f_1_1_0) (Or.inr (i_nle.mp c_5))
  | omega
set_option maxHeartbeats 60000 in
theorem lf_X7_sell_18 {nv0 : Int32} {nv1 : Int32} {nv2 : Int32} {nv3 : Int32} {nv5 : Int32} {nhh : Nat} {nww : Nat} {nkk : Nat} {ng1 : Nat → Int32} {ng2 : Nat → Int32} {ng3 : Nat → Int32} {ng4 : Nat → Int32} {ng5 : Nat → Int32} {q : Nat} {az : Nat} {fb : Nat → Option Nat} {ad : Nat → Nat} {V : Nat → Nat → Int32} {k0 : Int32} (nhb : nhh ≤ 999) (nwb : nww ≤ 6) (nkb : nkk ≤ 6) (hLv : okLv (nrm nv0 nv1 nv2 nv3 nhh nv5 nww nkk ng1 ng2 ng3 ng4 ng5)) (hfb : ∀ i : Nat, i < 24 → fb i = some (ad i)) (hok : ∀ i : Nat, i < 24 → okL (V i)) (hq : q < 24) (haz : az ≤ 24) (f_1_1_0 : 0 < nv0) (c_4 : ¬ (k0 < 1)) (c_5 : ¬ (k0 ≤ 999)) : az = kpN (gd_sell (nrm nv0 nv1 nv2 nv3 nhh nv5 nww nkk ng1 ng2 ng3 ng4 ng5) k0) az := by
  first
  | with_reducible exact se_l (se_g1 c_4)
  | with_reducible exact kz_n (se_g1 c_4)
  | with_reducible exact kc_n (se_g1 c_4)
  | with_reducible exact se_a1 (hz_1 hLv nhb nwb nkb f_1_1_0) (Or.inl c_4)
  | with_reducible exact se_l (se_g2 c_5)
  | with_reducible exact kz_n (se_g2 c_5)
  | with_reducible exact kc_n (se_g2 c_5)
  | with_reducible exact se_a1 (hz_1 hLv nhb nwb nkb f_1_1_0) (Or.inr (i_nle.mp c_5))
  | omega
set_option maxHeartbeats 60000 in
theorem lf_X7_sell_19 {nv0 : Int32} {nv1 : Int32} {nv2 : Int32} {nv3 : Int32} {nv5 : Int32} {nhh : Nat} {nww : Nat} {nkk : Nat} {ng1 : Nat → Int32} {ng2 : Nat → Int32} {ng3 : Nat → Int32} {ng4 : Nat → Int32} {ng5 : Nat → Int32} {q : Nat} {az : Nat} {fb : Nat → Option Nat} {ad : Nat → Nat} {V : Nat → Nat → Int32} {G : Nat → Nat → Nat → Int32} {k0 : Int32} (nhb : nhh ≤ 999) (nwb : nww ≤ 6) (nkb : nkk ≤ 6) (hLv : okLv (nrm nv0 nv1 nv2 nv3 nhh nv5 nww nkk ng1 ng2 ng3 ng4 ng5)) (hfb : ∀ i : Nat, i < 24 → fb i = some (ad i)) (hok : ∀ i : Nat, i < 24 → okL (V i)) (hq : q < 24) (haz : az ≤ 24) (f_1_1_0 : 0 < nv0) (c_4 : ¬ (k0 < 1)) (c_5 : ¬ (k0 ≤ 999)) : acX q az V G = kpA (gd_sell (nrm nv0 nv1 nv2 nv3 nhh nv5 nww nkk ng1 ng2 ng3 ng4 ng5) k0) (nrm nv0 nv1 nv2 nv3 nhh nv5 nww nkk ng1 ng2 ng3 ng4 ng5) az (acX q az V G) := by
  first
  | with_reducible exact se_l (se_g1 c_4)
  | with_reducible exact kz_n (se_g1 c_4)
  | with_reducible exact kc_n (se_g1 c_4)
  | with_reducible exact se_a1 (hz_1 hLv nhb nwb nkb f_1_1_0) (Or.inl c_4)
  | with_reducible exact se_l (se_g2 c_5)
  | with_reducible exact kz_n (se_g2 c_5)
  | with_reducible exact kc_n (se_g2 c_5)
  | with_reducible exact se_a1 (hz_1 hLv nhb nwb nkb f_1_1_0) (Or.inr (i_nle.mp c_5))
  | omega
set_option maxHeartbeats 60000 in
theorem lf_X7_sell_20 {nv0 : Int32} {nv1 : Int32} {nv2 : Int32} {nv3 : Int32} {nv5 : Int32} {nhh : Nat} {nww : Nat} {nkk : Nat} {ng1 : Nat → Int32} {ng2 : Nat → Int32} {ng3 : Nat → Int32} {ng4 : Nat → Int32} {ng5 : Nat → Int32} {q : Nat} {az : Nat} {fb : Nat → Option Nat} {ad : Nat → Nat} {V : Nat → Nat → Int32} {k0 : Int32} (nhb : nhh ≤ 999) (nwb : nww ≤ 6) (nkb : nkk ≤ 6) (hLv : okLv (nrm nv0 nv1 nv2 nv3 nhh nv5 nww nkk ng1 ng2 ng3 ng4 ng5)) (hfb : ∀ i : Nat, i < 24 → fb i = some (ad i)) (hok : ∀ i : Nat, i < 24 → okL (V i)) (hq : q < 24) (haz : az ≤ 24) (f_1_1_0 : 0 < nv0) (c_4 : ¬ (k0 < 1)) (c_5 : ¬ (k0 ≤ 999)) : (-1000001) = (a_sell (nrm nv0 nv1 nv2 nv3 nhh nv5 nww nkk ng1 ng2 ng3 ng4 ng5) k0) := by
  first
  | with_reducible exact se_l (se_g1 c_4)
  | with_reducible exact kz_n (se_g1 c_4)
  | with_reducible exact kc_n (se_g1 c_4)
  | with_reducible exact se_a1 (hz_1 hLv nhb nwb nkb f_1_1_0) (Or.inl c_4)
  | with_reducible exact se_l (se_g2 c_5)
  | with_reducible exact kz_n (se_g2 c_5)
  | with_reducible exact kc_n (se_g2 c_5)
  | with_reducible exact se_a1 (hz_1 hLv nhb nwb nkb f_1_1_0) (Or.inr (i_nle.mp c_5))
  | omega
set_option maxHeartbeats 4000000 in
set_option maxRecDepth 100000 in
theorem r_X7_sell (l : Launch) (dC : Nat → ClassId) (dI : Nat → Nat → Nat) (cI cZ cL cJ : ClassId) (sz : Nat) (x : Nat) (ro : Nat) (ta : Nat) (no : Nat) (ac : Nat) (im : Nat) (tr : Nat) (pl : Nat) (cs : Nat) (ak : Nat) (xf : Int32) (xg : Int32) (nv0 : Int32) (nv1 : Int32) (nv2 : Int32) (nv3 : Int32) (nv5 : Int32) (nhh : Nat) (nww : Nat) (nkk : Nat) (nb1 : Nat) (nb2 : Nat) (nb3 : Nat) (nb4 : Nat) (nb5 : Nat) (ng1 : Nat → Int32) (ng2 : Nat → Int32) (ng3 : Nat → Int32) (ng4 : Nat → Int32) (ng5 : Nat → Int32) (be : Nat) (q : Nat) (az : Nat) (fb : Nat → Option Nat) (ad : Nat → Nat) (bd : Nat → Nat → Nat) (V : Nat → Nat → Int32) (G : Nat → Nat → Nat → Int32) (k0 : Int32) (nhb : nhh ≤ 999) (nwb : nww ≤ 6) (nkb : nkk ≤ 6) (hLv : okLv (nrm nv0 nv1 nv2 nv3 nhh nv5 nww nkk ng1 ng2 ng3 ng4 ng5)) (hfb : ∀ i : Nat, i < 24 → fb i = some (ad i)) (hok : ∀ i : Nat, i < 24 → okL (V i)) (hq : q < 24) (haz : az ≤ 24) : Met l yX7_sell wsX7_sell ({ frames := 3, cells := 0, slots := 0, locals := 122 }) (va_Pc [.ref x, .int k0] (fun U => U.heap.size = sz ∧ va_P (dC, dI) vwCl (([(xo_7_rrrrrrrrrii x ro ta no ac im tr pl cs ak xf xg), (xo_3_iiiiiiiirrrrr no nv0 nv1 nv2 nv3 (nI nhh) nv5 (nI nww) (nI nkk) nb1 nb2 nb3 nb4 nb5), (xI nb1 cI 6 ng1), (xI nb2 cI 6 ng2), (xI nb3 cI 6 ng3), (xI nb4 cI 6 ng4), (xI nb5 cI 6 ng5), (xo_0_rii ac be (nI q) (nI az)), (xJ be cL 24 fb)] : va_W) ++ lvs cI 24 ad bd V G) U.heap ∧ va_K (dC, dI) vwCl [(cI, .int), (cZ, .boolean), (cL, .object RX3), (cJ, .array .int)] U ∧ va_D (fun _ => True) (([(xo_7_rrrrrrrrrii x ro ta no ac im tr pl cs ak xf xg), (xo_3_iiiiiiiirrrrr no nv0 nv1 nv2 nv3 (nI nhh) nv5 (nI nww) (nI nkk) nb1 nb2 nb3 nb4 nb5), (xI nb1 cI 6 ng1), (xI nb2 cI 6 ng2), (xI nb3 cI 6 ng3), (xI nb4 cI 6 ng4), (xI nb5 cI 6 ng5), (xo_0_rii ac be (nI q) (nI az)), (xJ be cL 24 fb)] : va_W) ++ lvs cI 24 ad bd V G))) (va_Qi (fun r (_ : Unit) => r = (a_sell (nrm nv0 nv1 nv2 nv3 nhh nv5 nww nkk ng1 ng2 ng3 ng4 ng5) k0)) (fun (_ : Unit) t => ∃ (Vn : Nat → Nat → Int32) (Gn : Nat → Nat → Nat → Int32) (nv0n : Int32) (nv1n : Int32) (nv2n : Int32) (nv3n : Int32) (nv5n : Int32) (ng1n : Nat → Int32) (ng2n : Nat → Int32) (ng3n : Nat → Int32) (ng4n : Nat → Int32) (ng5n : Nat → Int32) (nhn : Nat) (nwn : Nat) (nkn : Nat) (qn : Nat) (azn : Nat), va_P (dC, dI) vwCl (([(xo_7_rrrrrrrrrii x ro ta no ac im tr pl cs ak xf xg), (xo_3_iiiiiiiirrrrr no nv0n nv1n nv2n nv3n (nI nhn) nv5n (nI nwn) (nI nkn) nb1 nb2 nb3 nb4 nb5), (xI nb1 cI 6 ng1n), (xI nb2 cI 6 ng2n), (xI nb3 cI 6 ng3n), (xI nb4 cI 6 ng4n), (xI nb5 cI 6 ng5n), (xo_0_rii ac be (nI qn) (nI azn)), (xJ be cL 24 fb)] : va_W) ++ lvs cI 24 ad bd Vn Gn) t.heap ∧ va_D (va_A (([(xo_7_rrrrrrrrrii x ro ta no ac im tr pl cs ak xf xg), (xo_3_iiiiiiiirrrrr no nv0 nv1 nv2 nv3 (nI nhh) nv5 (nI nww) (nI nkk) nb1 nb2 nb3 nb4 nb5), (xI nb1 cI 6 ng1), (xI nb2 cI 6 ng2), (xI nb3 cI 6 ng3), (xI nb4 cI 6 ng4), (xI nb5 cI 6 ng5), (xo_0_rii ac be (nI q) (nI az)), (xJ be cL 24 fb)] : va_W) ++ lvs cI 24 ad bd V G) sz) (([(xo_7_rrrrrrrrrii x ro ta no ac im tr pl cs ak xf xg), (xo_3_iiiiiiiirrrrr no nv0n nv1n nv2n nv3n (nI nhn) nv5n (nI nwn) (nI nkn) nb1 nb2 nb3 nb4 nb5), (xI nb1 cI 6 ng1n), (xI nb2 cI 6 ng2n), (xI nb3 cI 6 ng3n), (xI nb4 cI 6 ng4n), (xI nb5 cI 6 ng5n), (xo_0_rii ac be (nI qn) (nI azn)), (xJ be cL 24 fb)] : va_W) ++ lvs cI 24 ad bd Vn Gn) ∧ (∀ i : Nat, i < 24 → okL (Vn i)) ∧ qn < 24 ∧ azn ≤ 24 ∧ nhn ≤ 999 ∧ nwn ≤ 6 ∧ nkn ≤ 6 ∧ (nrm nv0n nv1n nv2n nv3n nhn nv5n nwn nkn ng1n ng2n ng3n ng4n ng5n) = n_sell (nrm nv0 nv1 nv2 nv3 nhh nv5 nww nkk ng1 ng2 ng3 ng4 ng5) k0 ∧ azn = kpN (gd_sell (nrm nv0 nv1 nv2 nv3 nhh nv5 nww nkk ng1 ng2 ng3 ng4 ng5) k0) az ∧ acX qn azn Vn Gn = kpA (gd_sell (nrm nv0 nv1 nv2 nv3 nhh nv5 nww nkk ng1 ng2 ng3 ng4 ng5) k0) (nrm nv0 nv1 nv2 nv3 nhh nv5 nww nkk ng1 ng2 ng3 ng4 ng5) az (acX q az V G)) (va_A (([(xo_7_rrrrrrrrrii x ro ta no ac im tr pl cs ak xf xg), (xo_3_iiiiiiiirrrrr no nv0 nv1 nv2 nv3 (nI nhh) nv5 (nI nww) (nI nkk) nb1 nb2 nb3 nb4 nb5), (xI nb1 cI 6 ng1), (xI nb2 cI 6 ng2), (xI nb3 cI 6 ng3), (xI nb4 cI 6 ng4), (xI nb5 cI 6 ng5), (xo_0_rii ac be (nI q) (nI az)), (xJ be cL 24 fb)] : va_W) ++ lvs cI 24 ad bd V G) sz)) 0 0 (va_A (([(xo_7_rrrrrrrrrii x ro ta no ac im tr pl cs ak xf xg), (xo_3_iiiiiiiirrrrr no nv0 nv1 nv2 nv3 (nI nhh) nv5 (nI nww) (nI nkk) nb1 nb2 nb3 nb4 nb5), (xI nb1 cI 6 ng1), (xI nb2 cI 6 ng2), (xI nb3 cI 6 ng3), (xI nb4 cI 6 ng4), (xI nb5 cI 6 ng5), (xo_0_rii ac be (nI q) (nI az)), (xJ be cL 24 fb)] : va_W) ++ lvs cI 24 ad bd V G) sz) := by
  refine Met.ofW (cc := cX7_sell) (maxL := 2) (ret := (some .int)) (by decide) rfl ?_
  intro p e s m args below meth c s₁ B hml hv
  obtain ⟨rfl, hsz, hP, hK, hD0⟩ := hv
  have hx := B.exec
  have hb := B.bytes
  have hr := B.returns
  have hts := atoms_spec (ws := wsX7_sell) B.pre
  have hown : s.vm.findClass RX7 = some m.cls := findClass_of_methodNamed B.named
  have hlocks := B.notSynchronized
  subst hsz
  have hD := hD0.self (sz := s.heap.size)
  generalize hAe : va_A (([(xo_7_rrrrrrrrrii x ro ta no ac im tr pl cs ak xf xg), (xo_3_iiiiiiiirrrrr no nv0 nv1 nv2 nv3 (nI nhh) nv5 (nI nww) (nI nkk) nb1 nb2 nb3 nb4 nb5), (xI nb1 cI 6 ng1), (xI nb2 cI 6 ng2), (xI nb3 cI 6 ng3), (xI nb4 cI 6 ng4), (xI nb5 cI 6 ng5), (xo_0_rii ac be (nI q) (nI az)), (xJ be cL 24 fb)] : va_W) ++ lvs cI 24 ad bd V G) s.heap.size = A at hD ⊢
  have hA : ∀ q : Nat, s.heap.size ≤ q → A q := fun q h => by rw [← hAe]; exact Or.inr h
  have hS : va_S A s.heap s.heap [] := va_S.rf
  have hP : va_P (dC, dI) vwCl (([(xo_7_rrrrrrrrrii x ro ta no ac im tr pl cs ak xf xg), (xo_3_iiiiiiiirrrrr no nv0 nv1 nv2 nv3 (nI nhh) nv5 (nI nww) (nI nkk) nb1 nb2 nb3 nb4 nb5), (xI nb1 cI 6 ng1), (xI nb2 cI 6 ng2), (xI nb3 cI 6 ng3), (xI nb4 cI 6 ng4), (xI nb5 cI 6 ng5), (xo_0_rii ac be (nI q) (nI az)), (xJ be cL 24 fb)] : va_W) ++ lvs cI 24 ad bd V G) s.heap := hP
  have hl := lv_entry ([.ref x, .int k0]) (n := 2) (Nat.le_of_ble_eq_true rfl)
  rw [lg_entry_eq]
  generalize (lg_sl ([.ref x, .int k0]) ++ List.replicate (2 - (lg_sl ([.ref x, .int k0])).length) Slot.unset).toArray = ls at hl ⊢
  have hl : lv_has ls 2 [(0, .ref x), (1, .int k0)] := hl
  refine lv_aload_n hx hb dX7_sell_0 rfl (lv_at hl 0 rfl) ?_
  refine va_get (D := (dC, dI)) (ci := 7) (v := .ref no) (C := RX7) (T := TX7) (N := 11) hx hb hts i_X7_sell_X7 hown hK hP 0 rfl rfl 2 (by decide) (hts _ mx_X7_sell_1) (fun _ h9 => h9) rfl dX7_sell_1 ?_
  have hPc_1 := hP.sub (ws' := [(xo_3_iiiiiiiirrrrr no nv0 nv1 nv2 nv3 (nI nhh) nv5 (nI nww) (nI nkk) nb1 nb2 nb3 nb4 nb5), (xI nb1 cI 6 ng1), (xI nb2 cI 6 ng2), (xI nb3 cI 6 ng3), (xI nb4 cI 6 ng4), (xI nb5 cI 6 ng5)]) [1, 2, 3, 4, 5, 6] rfl
  refine vp_callSi (W.runV (As := []) (rest := []) ⟨hx, hb, hml, hown, hts⟩ (r_X3_isTold l dC dI cI cZ cL cJ no nv0 nv1 nv2 nv3 nv5 nhh nww nkk nb1 nb2 nb3 nb4 nb5 ng1 ng2 ng3 ng4 ng5 (by omega) (by omega) (by omega)) (cwV 0 hts gX7_sell_X3_isTold rfl rfl rfl (by decide +kernel) ⟨Nat.le_of_ble_eq_true rfl, Nat.le_of_ble_eq_true rfl⟩) (pvP 3 1 hK hP rfl rfl hPc_1) rfl rfl hl.1 rfl (lv_room (Nat.le_of_ble_eq_true rfl)) dX7_sell_4 ⟨Nat.le_of_ble_eq_true rfl, Nat.le_of_ble_eq_true rfl⟩) (fun r_1 h_1 => ?_)
  rcases h_1 with ⟨h_1, f_1_0_0⟩ | ⟨h_1, f_1_1_0⟩
  · subst h_1
    refine lv_if_ne (tgt := 13) hx hb dX7_sell_7 (by decide) (fun c_ => absurd (by decide) c_) (fun _ => ?_)
    refine lv_ldc (own := RX7) (v := (-1000002)) hx hb hown (hts _ mx_X7_sell_2) dX7_sell_10 ?_
    have hX9 := cut2P (cx := [(xo_7_rrrrrrrrrii x ro ta no ac im tr pl cs ak xf xg), (xo_3_iiiiiiiirrrrr no nv0 nv1 nv2 nv3 (nI nhh) nv5 (nI nww) (nI nkk) nb1 nb2 nb3 nb4 nb5), (xI nb1 cI 6 ng1), (xI nb2 cI 6 ng2), (xI nb3 cI 6 ng3), (xI nb4 cI 6 ng4), (xI nb5 cI 6 ng5), (xo_0_rii ac be (nI q) (nI az)), (xJ be cL 24 fb)]) hP hD [0, 1, 2, 3, 4, 5, 6, 7, 8] (by decide +kernel) rfl
    exact W.iret (v := (-1000002)) hx hb hr (fun t ht hW => ⟨⟨(-1000002), (), rfl, (lf_X7_sell_4 nhb nwb nkb hLv hfb hok hq haz f_1_0_0), ⟨V, G, nv0, nv1, nv2, nv3, nv5, ng1, ng2, ng3, ng4, ng5, nhh, nww, nkk, q, az, va_Ht ht hX9.1, hX9.2, hok, (by omega), (by omega), (by omega), (by omega), (by omega), (lf_X7_sell_1 nhb nwb nkb hLv hfb hok hq haz f_1_0_0), (lf_X7_sell_2 nhb nwb nkb hLv hfb hok hq haz f_1_0_0), (lf_X7_sell_3 nhb nwb nkb hLv hfb hok hq haz f_1_0_0)⟩⟩, hS.F ht⟩) hS.2.2 dX7_sell_12
  · subst h_1
    refine lv_if_ne (tgt := 13) hx hb dX7_sell_7 (by decide) (fun _ => ?_) (fun c_ => absurd c_ (by decide))
    refine lv_iload_n hx hb dX7_sell_13 rfl (lv_at hl 1 rfl) ?_
    refine lv_iconst (v := 1) hx hb dX7_sell_14 (by decide) ?_
    refine lv_icmp_lt (tgt := 25) hx hb dX7_sell_15 (by decide) (fun c_4 => ?_) (fun c_4 => ?_)
    · skip
      refine lv_ldc (own := RX7) (v := (-1000001)) hx hb hown (hts _ mx_X7_sell_3) dX7_sell_25 ?_
      have hX9 := cut2P (cx := [(xo_7_rrrrrrrrrii x ro ta no ac im tr pl cs ak xf xg), (xo_3_iiiiiiiirrrrr no nv0 nv1 nv2 nv3 (nI nhh) nv5 (nI nww) (nI nkk) nb1 nb2 nb3 nb4 nb5), (xI nb1 cI 6 ng1), (xI nb2 cI 6 ng2), (xI nb3 cI 6 ng3), (xI nb4 cI 6 ng4), (xI nb5 cI 6 ng5), (xo_0_rii ac be (nI q) (nI az)), (xJ be cL 24 fb)]) hP hD [0, 1, 2, 3, 4, 5, 6, 7, 8] (by decide +kernel) rfl
      exact W.iret (v := (-1000001)) hx hb hr (fun t ht hW => ⟨⟨(-1000001), (), rfl, (lf_X7_sell_8 nhb nwb nkb hLv hfb hok hq haz f_1_1_0 c_4), ⟨V, G, nv0, nv1, nv2, nv3, nv5, ng1, ng2, ng3, ng4, ng5, nhh, nww, nkk, q, az, va_Ht ht hX9.1, hX9.2, hok, (by omega), (by omega), (by omega), (by omega), (by omega), (lf_X7_sell_5 nhb nwb nkb hLv hfb hok hq haz f_1_1_0 c_4), (lf_X7_sell_6 nhb nwb nkb hLv hfb hok hq haz f_1_1_0 c_4), (lf_X7_sell_7 nhb nwb nkb hLv hfb hok hq haz f_1_1_0 c_4)⟩⟩, hS.F ht⟩) hS.2.2 dX7_sell_27
    · skip
      refine lv_iload_n hx hb dX7_sell_18 rfl (lv_at hl 1 rfl) ?_
      refine lv_sipush (v := 999) hx hb dX7_sell_19 (by decide) ?_
      refine lv_icmp_le (tgt := 28) hx hb dX7_sell_22 (by decide) (fun c_5 => ?_) (fun c_5 => ?_)
      · skip
        refine lv_aload_n hx hb dX7_sell_28 rfl (lv_at hl 0 rfl) ?_
        refine va_get (D := (dC, dI)) (ci := 7) (v := .ref no) (C := RX7) (T := TX7) (N := 11) hx hb hts i_X7_sell_X7 hown hK hP 0 rfl rfl 2 (by decide) (hts _ mx_X7_sell_1) (fun _ h9 => h9) rfl dX7_sell_29 ?_
        refine va_get (D := (dC, dI)) (ci := 3) (v := .int nv5) (C := RX3) (T := TX3) (N := 13) hx hb hts i_X7_sell_X3 hown hK hP 1 rfl rfl 5 (by decide) (hts _ mx_X7_sell_4) (fun _ h9 => h9) rfl dX7_sell_32 ?_
        refine lv_iload_n hx hb dX7_sell_35 rfl (lv_at hl 1 rfl) ?_
        refine lv_icmp_ge (tgt := 42) hx hb dX7_sell_36 (by decide) (fun c_6 => ?_) (fun c_6 => ?_)
        · skip
          refine lv_aload_n hx hb dX7_sell_42 rfl (lv_at hl 0 rfl) ?_
          refine va_get (D := (dC, dI)) (ci := 7) (v := .ref ac) (C := RX7) (T := TX7) (N := 11) hx hb hts i_X7_sell_X7 hown hK hP 0 rfl rfl 3 (by decide) (hts _ mx_X7_sell_5) (fun _ h9 => h9) rfl dX7_sell_43 ?_
          refine lv_aload_n hx hb dX7_sell_46 rfl (lv_at hl 0 rfl) ?_
          refine va_get (D := (dC, dI)) (ci := 7) (v := .ref no) (C := RX7) (T := TX7) (N := 11) hx hb hts i_X7_sell_X7 hown hK hP 0 rfl rfl 2 (by decide) (hts _ mx_X7_sell_1) (fun _ h9 => h9) rfl dX7_sell_47 ?_
          have hc_7 := cutP (cx := [(xo_0_rii ac be (nI q) (nI az)), (xJ be cL 24 fb), (xo_3_iiiiiiiirrrrr no nv0 nv1 nv2 nv3 (nI nhh) nv5 (nI nww) (nI nkk) nb1 nb2 nb3 nb4 nb5), (xI nb1 cI 6 ng1), (xI nb2 cI 6 ng2), (xI nb3 cI 6 ng3), (xI nb4 cI 6 ng4), (xI nb5 cI 6 ng5)]) hP hD hS hA [7, 8, 1, 2, 3, 4, 5, 6] (by decide +kernel) rfl
          refine va_callv (va_runV (As := [.ref no]) (rest := []) ⟨hx, hb, hml, hown, hts⟩ (r_X0_keep l dC dI cI cZ cL cJ s.heap.size ac be q az fb ad bd V G no nv0 nv1 nv2 nv3 nv5 nhh nww nkk nb1 nb2 nb3 nb4 nb5 ng1 ng2 ng3 ng4 ng5 (hfb) (hok) (by omega) (by omega) (by omega) (by omega) (by omega)) (cwV 1 hts gX7_sell_X0_keep rfl rfl rfl (by decide +kernel) ⟨Nat.le_of_ble_eq_true rfl, Nat.le_of_ble_eq_true rfl⟩) (pvW 0 7 hK hP rfl rfl hc_7) rfl rfl hl.1 rfl (lv_room (Nat.le_of_ble_eq_true rfl)) dX7_sell_50 ⟨Nat.le_of_ble_eq_true rfl, Nat.le_of_ble_eq_true rfl⟩) hS (fun q _ h => hc_7.2.2 q h) hc_7.2.2 (fun u_7 t_7 H1 locs ht hvm h_7 hB hz1 hk1 hS => ?_)
          refine xl_4_9 hB (fun Vn_7 Gn_7 qn_7 zn_7 hP1 hD1 hF_7_0 hF_7_1 hF_7_2 hF_7_3 hF_7_4 hF_7_5 hF_7_6 => ?_)
          clear hB
          rw [ht] at hP1
          obtain ⟨hP, hD⟩ := va_joinP (wr := [(xo_7_rrrrrrrrrii x ro ta no ac im tr pl cs ak xf xg)]) (rx := [(xo_0_rii ac be (nI qn_7) (nI zn_7)), (xJ be cL 24 fb), (xo_3_iiiiiiiirrrrr no nv0 nv1 nv2 nv3 (nI nhh) nv5 (nI nww) (nI nkk) nb1 nb2 nb3 nb4 nb5), (xI nb1 cI 6 ng1), (xI nb2 cI 6 ng2), (xI nb3 cI 6 ng3), (xI nb4 cI 6 ng4), (xI nb5 cI 6 ng5)]) (pl1 := lvs cI 24 ad bd Vn_7 Gn_7) hP hD [7, 8, 1, 2, 3, 4, 5, 6] [0] rfl rfl (by decide +kernel) (by decide +kernel) hk1 hc_7.2.2 hP1 hD1
          generalize H1 = H at hP hS ⊢
          have hP : va_P (dC, dI) vwCl (([(xo_7_rrrrrrrrrii x ro ta no ac im tr pl cs ak xf xg), (xo_0_rii ac be (nI qn_7) (nI zn_7)), (xJ be cL 24 fb), (xo_3_iiiiiiiirrrrr no nv0 nv1 nv2 nv3 (nI nhh) nv5 (nI nww) (nI nkk) nb1 nb2 nb3 nb4 nb5), (xI nb1 cI 6 ng1), (xI nb2 cI 6 ng2), (xI nb3 cI 6 ng3), (xI nb4 cI 6 ng4), (xI nb5 cI 6 ng5)] : va_W) ++ lvs cI 24 ad bd Vn_7 Gn_7) H := hP
          have hD := dto hP hD
          refine lv_aload_n hx hb dX7_sell_53 rfl (lv_at hl 0 rfl) ?_
          refine va_get (D := (dC, dI)) (ci := 7) (v := .ref no) (C := RX7) (T := TX7) (N := 11) hx hb hts i_X7_sell_X7 hown hK hP 0 rfl rfl 2 (by decide) (hts _ mx_X7_sell_1) (fun _ h9 => h9) rfl dX7_sell_54 ?_
          refine lv_dup hx hb dX7_sell_57 rfl ?_
          refine va_get (D := (dC, dI)) (ci := 3) (v := .int nv5) (C := RX3) (T := TX3) (N := 13) hx hb hts i_X7_sell_X3 hown hK hP 3 rfl rfl 5 (by decide) (hts _ mx_X7_sell_4) (fun _ h9 => h9) rfl dX7_sell_58 ?_
          refine lv_iload_n hx hb dX7_sell_61 rfl (lv_at hl 1 rfl) ?_
          refine lv_isub hx hb dX7_sell_62 ?_
          refine lv_topi (fun v_8 e_8 => ?_)
          refine va_put (D := (dC, dI)) (ci := 3) (v := .int v_8) (ty := .int) (C := RX3) (T := TX3) (N := 13) hx hb hts i_X7_sell_X3 tyX3 tyX3_ok nmX3 hown hK hP hD hS 3 rfl rfl 5 (by decide) (hts _ mx_X7_sell_4) (fun _ h9 => h9) rfl (by decide +kernel) rfl rfl (Nat.le_of_ble_eq_true rfl) dX7_sell_63 (fun H locs hP hD hS => ?_)
          have hP : va_P (dC, dI) vwCl (([(xo_7_rrrrrrrrrii x ro ta no ac im tr pl cs ak xf xg), (xo_0_rii ac be (nI qn_7) (nI zn_7)), (xJ be cL 24 fb), (xo_3_iiiiiiiirrrrr no nv0 nv1 nv2 nv3 (nI nhh) v_8 (nI nww) (nI nkk) nb1 nb2 nb3 nb4 nb5), (xI nb1 cI 6 ng1), (xI nb2 cI 6 ng2), (xI nb3 cI 6 ng3), (xI nb4 cI 6 ng4), (xI nb5 cI 6 ng5)] : va_W) ++ lvs cI 24 ad bd Vn_7 Gn_7) H := hP
          have hD := dto hP hD
          refine lv_aload_n hx hb dX7_sell_66 rfl (lv_at hl 0 rfl) ?_
          refine va_get (D := (dC, dI)) (ci := 7) (v := .ref no) (C := RX7) (T := TX7) (N := 11) hx hb hts i_X7_sell_X7 hown hK hP 0 rfl rfl 2 (by decide) (hts _ mx_X7_sell_1) (fun _ h9 => h9) rfl dX7_sell_67 ?_
          refine va_get (D := (dC, dI)) (ci := 3) (v := .int v_8) (C := RX3) (T := TX3) (N := 13) hx hb hts i_X7_sell_X3 hown hK hP 3 rfl rfl 5 (by decide) (hts _ mx_X7_sell_4) (fun _ h9 => h9) rfl dX7_sell_70 ?_
          have hX9 := cut2P (cx := [(xo_7_rrrrrrrrrii x ro ta no ac im tr pl cs ak xf xg), (xo_3_iiiiiiiirrrrr no nv0 nv1 nv2 nv3 (nI nhh) v_8 (nI nww) (nI nkk) nb1 nb2 nb3 nb4 nb5), (xI nb1 cI 6 ng1), (xI nb2 cI 6 ng2), (xI nb3 cI 6 ng3), (xI nb4 cI 6 ng4), (xI nb5 cI 6 ng5), (xo_0_rii ac be (nI qn_7) (nI zn_7)), (xJ be cL 24 fb)]) hP hD [0, 3, 4, 5, 6, 7, 8, 1, 2] (by decide +kernel) rfl
          exact W.iret (v := v_8) hx hb hr (fun t ht hW => ⟨⟨v_8, (), rfl, (lf_X7_sell_12 nhb nwb nkb hLv hfb hok hq haz f_1_1_0 c_4 c_5 c_6 hF_7_0 hF_7_1 hF_7_2 hF_7_3 hF_7_4 hF_7_5 hF_7_6 e_8), ⟨Vn_7, Gn_7, nv0, nv1, nv2, nv3, v_8, ng1, ng2, ng3, ng4, ng5, nhh, nww, nkk, qn_7, zn_7, va_Ht ht hX9.1, hX9.2, hF_7_0, (by omega), (by omega), (by omega), (by omega), (by omega), (lf_X7_sell_9 nhb nwb nkb hLv hfb hok hq haz f_1_1_0 c_4 c_5 c_6 hF_7_0 hF_7_1 hF_7_2 hF_7_3 hF_7_4 hF_7_5 hF_7_6 e_8), (lf_X7_sell_10 nhb nwb nkb hLv hfb hok hq haz f_1_1_0 c_4 c_5 c_6 hF_7_0 hF_7_1 hF_7_2 hF_7_3 hF_7_4 hF_7_5 hF_7_6 e_8), (lf_X7_sell_11 nhb nwb nkb hLv hfb hok hq haz f_1_1_0 c_4 c_5 c_6 hF_7_0 hF_7_1 hF_7_2 hF_7_3 hF_7_4 hF_7_5 hF_7_6 e_8)⟩⟩, hS.F ht⟩) hS.2.2 dX7_sell_73
        · skip
          refine lv_ldc (own := RX7) (v := (-1000002)) hx hb hown (hts _ mx_X7_sell_2) dX7_sell_39 ?_
          have hX9 := cut2P (cx := [(xo_7_rrrrrrrrrii x ro ta no ac im tr pl cs ak xf xg), (xo_3_iiiiiiiirrrrr no nv0 nv1 nv2 nv3 (nI nhh) nv5 (nI nww) (nI nkk) nb1 nb2 nb3 nb4 nb5), (xI nb1 cI 6 ng1), (xI nb2 cI 6 ng2), (xI nb3 cI 6 ng3), (xI nb4 cI 6 ng4), (xI nb5 cI 6 ng5), (xo_0_rii ac be (nI q) (nI az)), (xJ be cL 24 fb)]) hP hD [0, 1, 2, 3, 4, 5, 6, 7, 8] (by decide +kernel) rfl
          exact W.iret (v := (-1000002)) hx hb hr (fun t ht hW => ⟨⟨(-1000002), (), rfl, (lf_X7_sell_16 nhb nwb nkb hLv hfb hok hq haz f_1_1_0 c_4 c_5 c_6), ⟨V, G, nv0, nv1, nv2, nv3, nv5, ng1, ng2, ng3, ng4, ng5, nhh, nww, nkk, q, az, va_Ht ht hX9.1, hX9.2, hok, (by omega), (by omega), (by omega), (by omega), (by omega), (lf_X7_sell_13 nhb nwb nkb hLv hfb hok hq haz f_1_1_0 c_4 c_5 c_6), (lf_X7_sell_14 nhb nwb nkb hLv hfb hok hq haz f_1_1_0 c_4 c_5 c_6), (lf_X7_sell_15 nhb nwb nkb hLv hfb hok hq haz f_1_1_0 c_4 c_5 c_6)⟩⟩, hS.F ht⟩) hS.2.2 dX7_sell_41
      · skip
        refine lv_ldc (own := RX7) (v := (-1000001)) hx hb hown (hts _ mx_X7_sell_3) dX7_sell_25 ?_
        have hX9 := cut2P (cx := [(xo_7_rrrrrrrrrii x ro ta no ac im tr pl cs ak xf xg), (xo_3_iiiiiiiirrrrr no nv0 nv1 nv2 nv3 (nI nhh) nv5 (nI nww) (nI nkk) nb1 nb2 nb3 nb4 nb5), (xI nb1 cI 6 ng1), (xI nb2 cI 6 ng2), (xI nb3 cI 6 ng3), (xI nb4 cI 6 ng4), (xI nb5 cI 6 ng5), (xo_0_rii ac be (nI q) (nI az)), (xJ be cL 24 fb)]) hP hD [0, 1, 2, 3, 4, 5, 6, 7, 8] (by decide +kernel) rfl
        exact W.iret (v := (-1000001)) hx hb hr (fun t ht hW => ⟨⟨(-1000001), (), rfl, (lf_X7_sell_20 nhb nwb nkb hLv hfb hok hq haz f_1_1_0 c_4 c_5), ⟨V, G, nv0, nv1, nv2, nv3, nv5, ng1, ng2, ng3, ng4, ng5, nhh, nww, nkk, q, az, va_Ht ht hX9.1, hX9.2, hok, (by omega), (by omega), (by omega), (by omega), (by omega), (lf_X7_sell_17 nhb nwb nkb hLv hfb hok hq haz f_1_1_0 c_4 c_5), (lf_X7_sell_18 nhb nwb nkb hLv hfb hok hq haz f_1_1_0 c_4 c_5), (lf_X7_sell_19 nhb nwb nkb hLv hfb hok hq haz f_1_1_0 c_4 c_5)⟩⟩, hS.F ht⟩) hS.2.2 dX7_sell_27
