set_option maxHeartbeats 60000 in
theorem lf_X7_undo_1 {nv0 : Int32} {nv1 : Int32} {nv2 : Int32} {nv3 : Int32} {nv5 : Int32} {nhh : Nat} {nww : Nat} {nkk : Nat} {ng1 : Nat → Int32} {ng2 : Nat → Int32} {ng3 : Nat → Int32} {ng4 : Nat → Int32} {ng5 : Nat → Int32} {q : Nat} {az : Nat} {fb : Nat → Option Nat} {ad : Nat → Nat} {V : Nat → Nat → Int32} {G : Nat → Nat → Nat → Int32} {Vn_2 : Nat → Nat → Int32} {Gn_2 : Nat → Nat → Nat → Int32} {qn_2 : Nat} {zn_2 : Nat} {hn_2 : Nat} {wn_2 : Nat} {kn_2 : Nat} {v0n_2 : Int32} {v1n_2 : Int32} {v2n_2 : Int32} {v3n_2 : Int32} {v5n_2 : Int32} {g1n_2 : Nat → Int32} {g2n_2 : Nat → Int32} {g3n_2 : Nat → Int32} {g4n_2 : Nat → Int32} {g5n_2 : Nat → Int32} (nhb : nhh ≤ 999) (nwb : nww ≤ 6) (nkb : nkk ≤ 6) (hLv : okLv (nrm nv0 nv1 nv2 nv3 nhh nv5 nww nkk ng1 ng2 ng3 ng4 ng5)) (hfb : ∀ i : Nat, i < 24 → fb i = some (ad i)) (hok : ∀ i : Nat, i < 24 → okL (V i)) (hq : q < 24) (haz : az ≤ 24) (c_1 : ¬ (az = 0)) (hF_2_0 : (∀ i : Nat, i < 24 → okL (Vn_2 i))) (hF_2_1 : qn_2 < 24) (hF_2_2 : zn_2 ≤ 24) (hF_2_3 : hn_2 ≤ 999) (hF_2_4 : wn_2 ≤ 6) (hF_2_5 : kn_2 ≤ 6) (hF_2_6 : (0 < az → qn_2 = (q + 23) % 24 ∧ zn_2 = az - 1 ∧ (nrm v0n_2 v1n_2 v2n_2 v3n_2 hn_2 v5n_2 wn_2 kn_2 g1n_2 g2n_2 g3n_2 g4n_2 g5n_2) = nrV (V qn_2) (G qn_2))) (hF_2_7 : (az = 0 → zn_2 = 0 ∧ qn_2 = q ∧ (nrm v0n_2 v1n_2 v2n_2 v3n_2 hn_2 v5n_2 wn_2 kn_2 g1n_2 g2n_2 g3n_2 g4n_2 g5n_2) = (nrm nv0 nv1 nv2 nv3 nhh nv5 nww nkk ng1 ng2 ng3 ng4 ng5))) (hF_2_8 : (∀ i : Nat, i < 24 → nrV (Vn_2 i) (Gn_2 i) = nrV (V i) (G i))) : (nrm v0n_2 v1n_2 v2n_2 v3n_2 hn_2 v5n_2 wn_2 kn_2 g1n_2 g2n_2 g3n_2 g4n_2 g5n_2) = n_undo (nrm nv0 nv1 nv2 nv3 nhh nv5 nww nkk ng1 ng2 ng3 ng4 ng5) az (acX q az V G) := by
  first
  | with_reducible exact (undoX (r := (nrm nv0 nv1 nv2 nv3 nhh nv5 nww nkk ng1 ng2 ng3 ng4 ng5)) hq haz (Nat.pos_of_ne_zero c_1) (hF_2_6 (Nat.pos_of_ne_zero c_1)) hF_2_8).1
  | with_reducible exact (undoX (r := (nrm nv0 nv1 nv2 nv3 nhh nv5 nww nkk ng1 ng2 ng3 ng4 ng5)) hq haz (Nat.pos_of_ne_zero c_1) (hF_2_6 (Nat.pos_of_ne_zero c_1)) hF_2_8).2.1
  | with_reducible exact (undoX (r := (nrm nv0 nv1 nv2 nv3 nhh nv5 nww nkk ng1 ng2 ng3 ng4 ng5)) hq haz (Nat.pos_of_ne_zero c_1) (hF_2_6 (Nat.pos_of_ne_zero c_1)) hF_2_8).2.2.1
  | with_reducible exact (undoX (r := (nrm nv0 nv1 nv2 nv3 nhh nv5 nww nkk ng1 ng2 ng3 ng4 ng5)) hq haz (Nat.pos_of_ne_zero c_1) (hF_2_6 (Nat.pos_of_ne_zero c_1)) hF_2_8).2.2.2
  | with_reducible exact un_l c_1
  | with_reducible exact un_c c_1
  | with_reducible exact un_a c_1
  | omega
set_option maxHeartbeats 60000 in
theorem lf_X7_undo_2 {nv0 : Int32} {nv1 : Int32} {nv2 : Int32} {nv3 : Int32} {nv5 : Int32} {nhh : Nat} {nww : Nat} {nkk : Nat} {ng1 : Nat → Int32} {ng2 : Nat → Int32} {ng3 : Nat → Int32} {ng4 : Nat → Int32} {ng5 : Nat → Int32} {q : Nat} {az : Nat} {fb : Nat → Option Nat} {ad : Nat → Nat} {V : Nat → Nat → Int32} {G : Nat → Nat → Nat → Int32} {Vn_2 : Nat → Nat → Int32} {Gn_2 : Nat → Nat → Nat → Int32} {qn_2 : Nat} {zn_2 : Nat} {hn_2 : Nat} {wn_2 : Nat} {kn_2 : Nat} {v0n_2 : Int32} {v1n_2 : Int32} {v2n_2 : Int32} {v3n_2 : Int32} {v5n_2 : Int32} {g1n_2 : Nat → Int32} {g2n_2 : Nat → Int32} {g3n_2 : Nat → Int32} {g4n_2 : Nat → Int32} {g5n_2 : Nat → Int32} (nhb : nhh ≤ 999) (nwb : nww ≤ 6) (nkb : nkk ≤ 6) (hLv : okLv (nrm nv0 nv1 nv2 nv3 nhh nv5 nww nkk ng1 ng2 ng3 ng4 ng5)) (hfb : ∀ i : Nat, i < 24 → fb i = some (ad i)) (hok : ∀ i : Nat, i < 24 → okL (V i)) (hq : q < 24) (haz : az ≤ 24) (c_1 : ¬ (az = 0)) (hF_2_0 : (∀ i : Nat, i < 24 → okL (Vn_2 i))) (hF_2_1 : qn_2 < 24) (hF_2_2 : zn_2 ≤ 24) (hF_2_3 : hn_2 ≤ 999) (hF_2_4 : wn_2 ≤ 6) (hF_2_5 : kn_2 ≤ 6) (hF_2_6 : (0 < az → qn_2 = (q + 23) % 24 ∧ zn_2 = az - 1 ∧ (nrm v0n_2 v1n_2 v2n_2 v3n_2 hn_2 v5n_2 wn_2 kn_2 g1n_2 g2n_2 g3n_2 g4n_2 g5n_2) = nrV (V qn_2) (G qn_2))) (hF_2_7 : (az = 0 → zn_2 = 0 ∧ qn_2 = q ∧ (nrm v0n_2 v1n_2 v2n_2 v3n_2 hn_2 v5n_2 wn_2 kn_2 g1n_2 g2n_2 g3n_2 g4n_2 g5n_2) = (nrm nv0 nv1 nv2 nv3 nhh nv5 nww nkk ng1 ng2 ng3 ng4 ng5))) (hF_2_8 : (∀ i : Nat, i < 24 → nrV (Vn_2 i) (Gn_2 i) = nrV (V i) (G i))) : zn_2 = az - 1 := by
  first
  | with_reducible exact (undoX (r := (nrm nv0 nv1 nv2 nv3 nhh nv5 nww nkk ng1 ng2 ng3 ng4 ng5)) hq haz (Nat.pos_of_ne_zero c_1) (hF_2_6 (Nat.pos_of_ne_zero c_1)) hF_2_8).1
  | with_reducible exact (undoX (r := (nrm nv0 nv1 nv2 nv3 nhh nv5 nww nkk ng1 ng2 ng3 ng4 ng5)) hq haz (Nat.pos_of_ne_zero c_1) (hF_2_6 (Nat.pos_of_ne_zero c_1)) hF_2_8).2.1
  | with_reducible exact (undoX (r := (nrm nv0 nv1 nv2 nv3 nhh nv5 nww nkk ng1 ng2 ng3 ng4 ng5)) hq haz (Nat.pos_of_ne_zero c_1) (hF_2_6 (Nat.pos_of_ne_zero c_1)) hF_2_8).2.2.1
  | with_reducible exact (undoX (r := (nrm nv0 nv1 nv2 nv3 nhh nv5 nww nkk ng1 ng2 ng3 ng4 ng5)) hq haz (Nat.pos_of_ne_zero c_1) (hF_2_6 (Nat.pos_of_ne_zero c_1)) hF_2_8).2.2.2
  | with_reducible exact un_l c_1
  | with_reducible exact un_c c_1
  | with_reducible exact un_a c_1
  | omega
set_option maxHeartbeats 60000 in
theorem lf_X7_undo_3 {nv0 : Int32} {nv1 : Int32} {nv2 : Int32} {nv3 : Int32} {nv5 : Int32} {nhh : Nat} {nww : Nat} {nkk : Nat} {ng1 : Nat → Int32} {ng2 : Nat → Int32} {ng3 : Nat → Int32} {ng4 : Nat → Int32} {ng5 : Nat → Int32} {q : Nat} {az : Nat} {fb : Nat → Option Nat} {ad : Nat → Nat} {V : Nat → Nat → Int32} {G : Nat → Nat → Nat → Int32} {Vn_2 : Nat → Nat → Int32} {Gn_2 : Nat → Nat → Nat → Int32} {qn_2 : Nat} {zn_2 : Nat} {hn_2 : Nat} {wn_2 : Nat} {kn_2 : Nat} {v0n_2 : Int32} {v1n_2 : Int32} {v2n_2 : Int32} {v3n_2 : Int32} {v5n_2 : Int32} {g1n_2 : Nat → Int32} {g2n_2 : Nat → Int32} {g3n_2 : Nat → Int32} {g4n_2 : Nat → Int32} {g5n_2 : Nat → Int32} (nhb : nhh ≤ 999) (nwb : nww ≤ 6) (nkb : nkk ≤ 6) (hLv : okLv (nrm nv0 nv1 nv2 nv3 nhh nv5 nww nkk ng1 ng2 ng3 ng4 ng5)) (hfb : ∀ i : Nat, i < 24 → fb i = some (ad i)) (hok : ∀ i : Nat, i < 24 → okL (V i)) (hq : q < 24) (haz : az ≤ 24) (c_1 : ¬ (az = 0)) (hF_2_0 : (∀ i : Nat, i < 24 → okL (Vn_2 i))) (hF_2_1 : qn_2 < 24) (hF_2_2 : zn_2 ≤ 24) (hF_2_3 : hn_2 ≤ 999) (hF_2_4 : wn_2 ≤ 6) (hF_2_5 : kn_2 ≤ 6) (hF_2_6 : (0 < az → qn_2 = (q + 23) % 24 ∧ zn_2 = az - 1 ∧ (nrm v0n_2 v1n_2 v2n_2 v3n_2 hn_2 v5n_2 wn_2 kn_2 g1n_2 g2n_2 g3n_2 g4n_2 g5n_2) = nrV (V qn_2) (G qn_2))) (hF_2_7 : (az = 0 → zn_2 = 0 ∧ qn_2 = q ∧ (nrm v0n_2 v1n_2 v2n_2 v3n_2 hn_2 v5n_2 wn_2 kn_2 g1n_2 g2n_2 g3n_2 g4n_2 g5n_2) = (nrm nv0 nv1 nv2 nv3 nhh nv5 nww nkk ng1 ng2 ng3 ng4 ng5))) (hF_2_8 : (∀ i : Nat, i < 24 → nrV (Vn_2 i) (Gn_2 i) = nrV (V i) (G i))) : acX qn_2 zn_2 Vn_2 Gn_2 = dpA az (acX q az V G) := by
  first
  | with_reducible exact (undoX (r := (nrm nv0 nv1 nv2 nv3 nhh nv5 nww nkk ng1 ng2 ng3 ng4 ng5)) hq haz (Nat.pos_of_ne_zero c_1) (hF_2_6 (Nat.pos_of_ne_zero c_1)) hF_2_8).1
  | with_reducible exact (undoX (r := (nrm nv0 nv1 nv2 nv3 nhh nv5 nww nkk ng1 ng2 ng3 ng4 ng5)) hq haz (Nat.pos_of_ne_zero c_1) (hF_2_6 (Nat.pos_of_ne_zero c_1)) hF_2_8).2.1
  | with_reducible exact (undoX (r := (nrm nv0 nv1 nv2 nv3 nhh nv5 nww nkk ng1 ng2 ng3 ng4 ng5)) hq haz (Nat.pos_of_ne_zero c_1) (hF_2_6 (Nat.pos_of_ne_zero c_1)) hF_2_8).2.2.1
  | with_reducible exact (undoX (r := (nrm nv0 nv1 nv2 nv3 nhh nv5 nww nkk ng1 ng2 ng3 ng4 ng5)) hq haz (Nat.pos_of_ne_zero c_1) (hF_2_6 (Nat.pos_of_ne_zero c_1)) hF_2_8).2.2.2
  | with_reducible exact un_l c_1
  | with_reducible exact un_c c_1
  | with_reducible exact un_a c_1
  | omega
set_option maxHeartbeats 60000 in
theorem lf_X7_undo_4 {nv0 : Int32} {nv1 : Int32} {nv2 : Int32} {nv3 : Int32} {nv5 : Int32} {nhh : Nat} {nww : Nat} {nkk : Nat} {ng1 : Nat → Int32} {ng2 : Nat → Int32} {ng3 : Nat → Int32} {ng4 : Nat → Int32} {ng5 : Nat → Int32} {q : Nat} {az : Nat} {fb : Nat → Option Nat} {ad : Nat → Nat} {V : Nat → Nat → Int32} {G : Nat → Nat → Nat → Int32} {Vn_2 : Nat → Nat → Int32} {Gn_2 : Nat → Nat → Nat → Int32} {qn_2 : Nat} {zn_2 : Nat} {hn_2 : Nat} {wn_2 : Nat} {kn_2 : Nat} {v0n_2 : Int32} {v1n_2 : Int32} {v2n_2 : Int32} {v3n_2 : Int32} {v5n_2 : Int32} {g1n_2 : Nat → Int32} {g2n_2 : Nat → Int32} {g3n_2 : Nat → Int32} {g4n_2 : Nat → Int32} {g5n_2 : Nat → Int32} (nhb : nhh ≤ 999) (nwb : nww ≤ 6) (nkb : nkk ≤ 6) (hLv : okLv (nrm nv0 nv1 nv2 nv3 nhh nv5 nww nkk ng1 ng2 ng3 ng4 ng5)) (hfb : ∀ i : Nat, i < 24 → fb i = some (ad i)) (hok : ∀ i : Nat, i < 24 → okL (V i)) (hq : q < 24) (haz : az ≤ 24) (c_1 : ¬ (az = 0)) (hF_2_0 : (∀ i : Nat, i < 24 → okL (Vn_2 i))) (hF_2_1 : qn_2 < 24) (hF_2_2 : zn_2 ≤ 24) (hF_2_3 : hn_2 ≤ 999) (hF_2_4 : wn_2 ≤ 6) (hF_2_5 : kn_2 ≤ 6) (hF_2_6 : (0 < az → qn_2 = (q + 23) % 24 ∧ zn_2 = az - 1 ∧ (nrm v0n_2 v1n_2 v2n_2 v3n_2 hn_2 v5n_2 wn_2 kn_2 g1n_2 g2n_2 g3n_2 g4n_2 g5n_2) = nrV (V qn_2) (G qn_2))) (hF_2_7 : (az = 0 → zn_2 = 0 ∧ qn_2 = q ∧ (nrm v0n_2 v1n_2 v2n_2 v3n_2 hn_2 v5n_2 wn_2 kn_2 g1n_2 g2n_2 g3n_2 g4n_2 g5n_2) = (nrm nv0 nv1 nv2 nv3 nhh nv5 nww nkk ng1 ng2 ng3 ng4 ng5))) (hF_2_8 : (∀ i : Nat, i < 24 → nrV (Vn_2 i) (Gn_2 i) = nrV (V i) (G i))) : (nI zn_2) = (a_undo az) := by
  first
  | with_reducible exact (undoX (r := (nrm nv0 nv1 nv2 nv3 nhh nv5 nww nkk ng1 ng2 ng3 ng4 ng5)) hq haz (Nat.pos_of_ne_zero c_1) (hF_2_6 (Nat.pos_of_ne_zero c_1)) hF_2_8).1
  | with_reducible exact (undoX (r := (nrm nv0 nv1 nv2 nv3 nhh nv5 nww nkk ng1 ng2 ng3 ng4 ng5)) hq haz (Nat.pos_of_ne_zero c_1) (hF_2_6 (Nat.pos_of_ne_zero c_1)) hF_2_8).2.1
  | with_reducible exact (undoX (r := (nrm nv0 nv1 nv2 nv3 nhh nv5 nww nkk ng1 ng2 ng3 ng4 ng5)) hq haz (Nat.pos_of_ne_zero c_1) (hF_2_6 (Nat.pos_of_ne_zero c_1)) hF_2_8).2.2.1
  | with_reducible exact (undoX (r := (nrm nv0 nv1 nv2 nv3 nhh nv5 nww nkk ng1 ng2 ng3 ng4 ng5)) hq haz (Nat.pos_of_ne_zero c_1) (hF_2_6 (Nat.pos_of_ne_zero c_1)) hF_2_8).2.2.2
  | with_reducible exact un_l c_1
  | with_reducible exact un_c c_1
  | with_reducible exact un_a c_1
  | omega
set_option maxHeartbeats 60000 in
theorem lf_X7_undo_5 {nv0 : Int32} {nv1 : Int32} {nv2 : Int32} {nv3 : Int32} {nv5 : Int32} {nhh : Nat} {nww : Nat} {nkk : Nat} {ng1 : Nat → Int32} {ng2 : Nat → Int32} {ng3 : Nat → Int32} {ng4 : Nat → Int32} {ng5 : Nat → Int32} {q : Nat} {az : Nat} {fb : Nat → Option Nat} {ad : Nat → Nat} {V : Nat → Nat → Int32} {G : Nat → Nat → Nat → Int32} (nhb : nhh ≤ 999) (nwb : nww ≤ 6) (nkb : nkk ≤ 6) (hLv : okLv (nrm nv0 nv1 nv2 nv3 nhh nv5 nww nkk ng1 ng2 ng3 ng4 ng5)) (hfb : ∀ i : Nat, i < 24 → fb i = some (ad i)) (hok : ∀ i : Nat, i < 24 → okL (V i)) (hq : q < 24) (haz : az ≤ 24) (c_1 : az = 0) : (nrm nv0 nv1 nv2 nv3 nhh nv5 nww nkk ng1 ng2 ng3 ng4 ng5) = n_undo (nrm nv0 nv1 nv2 nv3 nhh nv5 nww nkk ng1 ng2 ng3 ng4 ng5) az (acX q az V G) := by
  first
  | with_reducible exact un_l c_1
  | with_reducible exact un_c c_1
  | with_reducible exact un_a c_1
  | omega
set_option maxHeartbeats 60000 in
theorem lf_X7_undo_6 {nv0 : Int32} {nv1 : Int32} {nv2 : Int32} {nv3 : Int32} {nv5 : Int32} {nhh : Nat} {nww : Nat} {nkk : Nat} {ng1 : Nat → Int32} {ng2 : Nat → Int32} {ng3 : Nat → Int32} {ng4 : Nat → Int32} {ng5 : Nat → Int32} {q : Nat} {az : Nat} {fb : Nat → Option Nat} {ad : Nat → Nat} {V : Nat → Nat → Int32} (nhb : nhh ≤ 999) (nwb : nww ≤ 6) (nkb : nkk ≤ 6) (hLv : okLv (nrm nv0 nv1 nv2 nv3 nhh nv5 nww nkk ng1 ng2 ng3 ng4 ng5)) (hfb : ∀ i : Nat, i < 24 → fb i = some (ad i)) (hok : ∀ i : Nat, i < 24 → okL (V i)) (hq : q < 24) (haz : az ≤ 24) (c_1 : az = 0) : az = az - 1 := by
  first
  | with_reducible exact un_l c_1
  | with_reducible exact un_c c_1
  | with_reducible exact un_a c_1
  | omega
set_option maxHeartbeats 60000 in
theorem lf_X7_undo_7 {nv0 : Int32} {nv1 : Int32} {nv2 : Int32} {nv3 : Int32} {nv5 : Int32} {nhh : Nat} {nww : Nat} {nkk : Nat} {ng1 : Nat → Int32} {ng2 : Nat → Int32} {ng3 : Nat → Int32} {ng4 : Nat → Int32} {ng5 : Nat → Int32} {q : Nat} {az : Nat} {fb : Nat → Option Nat} {ad : Nat → Nat} {V : Nat → Nat → Int32} {G : Nat → Nat → Nat → Int32} (nhb : nhh ≤ 999) (nwb : nww ≤ 6) (nkb : nkk ≤ 6) (hLv : okLv (nrm nv0 nv1 nv2 nv3 nhh nv5 nww nkk ng1 ng2 ng3 ng4 ng5)) (hfb : ∀ i : Nat, i < 24 → fb i = some (ad i)) (hok : ∀ i : Nat, i < 24 → okL (V i)) (hq : q < 24) (haz : az ≤ 24) (c_1 : az = 0) : acX q az V G = dpA az (acX q az V G) := by
  first
  | with_reducible exact un_l c_1
  | with_reducible exact un_c c_1
  | with_reducible exact un_a c_1
  | omega
set_option maxHeartbeats 60000 in
theorem lf_X7_undo_8 {nv0 : Int32} {nv1 : Int32} {nv2 : Int32} {nv3 : Int32} {nv5 : Int32} {nhh : Nat} {nww : Nat} {nkk : Nat} {ng1 : Nat → Int32} {ng2 : Nat → Int32} {ng3 : Nat → Int32} {ng4 : Nat → Int32} {ng5 : Nat → Int32} {q : Nat} {az : Nat} {fb : Nat → Option Nat} {ad : Nat → Nat} {V : Nat → Nat → Int32} (nhb : nhh ≤ 999) (nwb : nww ≤ 6) (nkb : nkk ≤ 6) (hLv : okLv (nrm nv0 nv1 nv2 nv3 nhh nv5 nww nkk ng1 ng2 ng3 ng4 ng5)) (hfb : ∀ i : Nat, i < 24 → fb i = some (ad i)) (hok : ∀ i : Nat, i < 24 → okL (V i)) (hq : q < 24) (haz : az ≤ 24) (c_1 : az = 0) : (-1000002) = (a_undo az) := by
  first
  | with_reducible exact un_l c_1
  | with_reducible exact un_c c_1
  | with_reducible exact un_a c_1
  | omega
set_option maxHeartbeats 4000000 in
set_option maxRecDepth 100000 in
theorem r_X7_undo (l : Launch) (dC : Nat → ClassId) (dI : Nat → Nat → Nat) (cI cZ cL cJ : ClassId) (sz : Nat) (x : Nat) (ro : Nat) (ta : Nat) (no : Nat) (ac : Nat) (im : Nat) (tr : Nat) (pl : Nat) (cs : Nat) (ak : Nat) (xf : Int32) (xg : Int32) (nv0 : Int32) (nv1 : Int32) (nv2 : Int32) (nv3 : Int32) (nv5 : Int32) (nhh : Nat) (nww : Nat) (nkk : Nat) (nb1 : Nat) (nb2 : Nat) (nb3 : Nat) (nb4 : Nat) (nb5 : Nat) (ng1 : Nat → Int32) (ng2 : Nat → Int32) (ng3 : Nat → Int32) (ng4 : Nat → Int32) (ng5 : Nat → Int32) (be : Nat) (q : Nat) (az : Nat) (fb : Nat → Option Nat) (ad : Nat → Nat) (bd : Nat → Nat → Nat) (V : Nat → Nat → Int32) (G : Nat → Nat → Nat → Int32) (nhb : nhh ≤ 999) (nwb : nww ≤ 6) (nkb : nkk ≤ 6) (hLv : okLv (nrm nv0 nv1 nv2 nv3 nhh nv5 nww nkk ng1 ng2 ng3 ng4 ng5)) (hfb : ∀ i : Nat, i < 24 → fb i = some (ad i)) (hok : ∀ i : Nat, i < 24 → okL (V i)) (hq : q < 24) (haz : az ≤ 24) : Met l yX7_undo wsX7_undo ({ frames := 3, cells := 0, slots := 0, locals := 122 }) (va_Pc [.ref x] (fun U => U.heap.size = sz ∧ va_P (dC, dI) vwCl (([(xo_7_rrrrrrrrrii x ro ta no ac im tr pl cs ak xf xg), (xo_3_iiiiiiiirrrrr no nv0 nv1 nv2 nv3 (nI nhh) nv5 (nI nww) (nI nkk) nb1 nb2 nb3 nb4 nb5), (xI nb1 cI 6 ng1), (xI nb2 cI 6 ng2), (xI nb3 cI 6 ng3), (xI nb4 cI 6 ng4), (xI nb5 cI 6 ng5), (xo_0_rii ac be (nI q) (nI az)), (xJ be cL 24 fb)] : va_W) ++ lvs cI 24 ad bd V G) U.heap ∧ va_K (dC, dI) vwCl [(cI, .int), (cZ, .boolean), (cL, .object RX3), (cJ, .array .int)] U ∧ va_D (fun _ => True) (([(xo_7_rrrrrrrrrii x ro ta no ac im tr pl cs ak xf xg), (xo_3_iiiiiiiirrrrr no nv0 nv1 nv2 nv3 (nI nhh) nv5 (nI nww) (nI nkk) nb1 nb2 nb3 nb4 nb5), (xI nb1 cI 6 ng1), (xI nb2 cI 6 ng2), (xI nb3 cI 6 ng3), (xI nb4 cI 6 ng4), (xI nb5 cI 6 ng5), (xo_0_rii ac be (nI q) (nI az)), (xJ be cL 24 fb)] : va_W) ++ lvs cI 24 ad bd V G))) (va_Qi (fun r (_ : Unit) => r = (a_undo az)) (fun (_ : Unit) t => ∃ (Vn : Nat → Nat → Int32) (Gn : Nat → Nat → Nat → Int32) (nv0n : Int32) (nv1n : Int32) (nv2n : Int32) (nv3n : Int32) (nv5n : Int32) (ng1n : Nat → Int32) (ng2n : Nat → Int32) (ng3n : Nat → Int32) (ng4n : Nat → Int32) (ng5n : Nat → Int32) (nhn : Nat) (nwn : Nat) (nkn : Nat) (qn : Nat) (azn : Nat), va_P (dC, dI) vwCl (([(xo_7_rrrrrrrrrii x ro ta no ac im tr pl cs ak xf xg), (xo_3_iiiiiiiirrrrr no nv0n nv1n nv2n nv3n (nI nhn) nv5n (nI nwn) (nI nkn) nb1 nb2 nb3 nb4 nb5), (xI nb1 cI 6 ng1n), (xI nb2 cI 6 ng2n), (xI nb3 cI 6 ng3n), (xI nb4 cI 6 ng4n), (xI nb5 cI 6 ng5n), (xo_0_rii ac be (nI qn) (nI azn)), (xJ be cL 24 fb)] : va_W) ++ lvs cI 24 ad bd Vn Gn) t.heap ∧ va_D (va_A (([(xo_7_rrrrrrrrrii x ro ta no ac im tr pl cs ak xf xg), (xo_3_iiiiiiiirrrrr no nv0 nv1 nv2 nv3 (nI nhh) nv5 (nI nww) (nI nkk) nb1 nb2 nb3 nb4 nb5), (xI nb1 cI 6 ng1), (xI nb2 cI 6 ng2), (xI nb3 cI 6 ng3), (xI nb4 cI 6 ng4), (xI nb5 cI 6 ng5), (xo_0_rii ac be (nI q) (nI az)), (xJ be cL 24 fb)] : va_W) ++ lvs cI 24 ad bd V G) sz) (([(xo_7_rrrrrrrrrii x ro ta no ac im tr pl cs ak xf xg), (xo_3_iiiiiiiirrrrr no nv0n nv1n nv2n nv3n (nI nhn) nv5n (nI nwn) (nI nkn) nb1 nb2 nb3 nb4 nb5), (xI nb1 cI 6 ng1n), (xI nb2 cI 6 ng2n), (xI nb3 cI 6 ng3n), (xI nb4 cI 6 ng4n), (xI nb5 cI 6 ng5n), (xo_0_rii ac be (nI qn) (nI azn)), (xJ be cL 24 fb)] : va_W) ++ lvs cI 24 ad bd Vn Gn) ∧ (∀ i : Nat, i < 24 → okL (Vn i)) ∧ qn < 24 ∧ azn ≤ 24 ∧ nhn ≤ 999 ∧ nwn ≤ 6 ∧ nkn ≤ 6 ∧ (nrm nv0n nv1n nv2n nv3n nhn nv5n nwn nkn ng1n ng2n ng3n ng4n ng5n) = n_undo (nrm nv0 nv1 nv2 nv3 nhh nv5 nww nkk ng1 ng2 ng3 ng4 ng5) az (acX q az V G) ∧ azn = az - 1 ∧ acX qn azn Vn Gn = dpA az (acX q az V G)) (va_A (([(xo_7_rrrrrrrrrii x ro ta no ac im tr pl cs ak xf xg), (xo_3_iiiiiiiirrrrr no nv0 nv1 nv2 nv3 (nI nhh) nv5 (nI nww) (nI nkk) nb1 nb2 nb3 nb4 nb5), (xI nb1 cI 6 ng1), (xI nb2 cI 6 ng2), (xI nb3 cI 6 ng3), (xI nb4 cI 6 ng4), (xI nb5 cI 6 ng5), (xo_0_rii ac be (nI q) (nI az)), (xJ be cL 24 fb)] : va_W) ++ lvs cI 24 ad bd V G) sz)) 0 0 (va_A (([(xo_7_rrrrrrrrrii x ro ta no ac im tr pl cs ak xf xg), (xo_3_iiiiiiiirrrrr no nv0 nv1 nv2 nv3 (nI nhh) nv5 (nI nww) (nI nkk) nb1 nb2 nb3 nb4 nb5), (xI nb1 cI 6 ng1), (xI nb2 cI 6 ng2), (xI nb3 cI 6 ng3), (xI nb4 cI 6 ng4), (xI nb5 cI 6 ng5), (xo_0_rii ac be (nI q) (nI az)), (xJ be cL 24 fb)] : va_W) ++ lvs cI 24 ad bd V G) sz) := by
  refine Met.ofW (cc := cX7_undo) (maxL := 1) (ret := (some .int)) (by decide) rfl ?_
  intro p e s m args below meth c s₁ B hml hv
  obtain ⟨rfl, hsz, hP, hK, hD0⟩ := hv
  have hx := B.exec
  have hb := B.bytes
  have hr := B.returns
  have hts := atoms_spec (ws := wsX7_undo) B.pre
  have hown : s.vm.findClass RX7 = some m.cls := findClass_of_methodNamed B.named
  have hlocks := B.notSynchronized
  subst hsz
  have hD := hD0.self (sz := s.heap.size)
  generalize hAe : va_A (([(xo_7_rrrrrrrrrii x ro ta no ac im tr pl cs ak xf xg), (xo_3_iiiiiiiirrrrr no nv0 nv1 nv2 nv3 (nI nhh) nv5 (nI nww) (nI nkk) nb1 nb2 nb3 nb4 nb5), (xI nb1 cI 6 ng1), (xI nb2 cI 6 ng2), (xI nb3 cI 6 ng3), (xI nb4 cI 6 ng4), (xI nb5 cI 6 ng5), (xo_0_rii ac be (nI q) (nI az)), (xJ be cL 24 fb)] : va_W) ++ lvs cI 24 ad bd V G) s.heap.size = A at hD ⊢
  have hA : ∀ q : Nat, s.heap.size ≤ q → A q := fun q h => by rw [← hAe]; exact Or.inr h
  have hS : va_S A s.heap s.heap [] := va_S.rf
  have hP : va_P (dC, dI) vwCl (([(xo_7_rrrrrrrrrii x ro ta no ac im tr pl cs ak xf xg), (xo_3_iiiiiiiirrrrr no nv0 nv1 nv2 nv3 (nI nhh) nv5 (nI nww) (nI nkk) nb1 nb2 nb3 nb4 nb5), (xI nb1 cI 6 ng1), (xI nb2 cI 6 ng2), (xI nb3 cI 6 ng3), (xI nb4 cI 6 ng4), (xI nb5 cI 6 ng5), (xo_0_rii ac be (nI q) (nI az)), (xJ be cL 24 fb)] : va_W) ++ lvs cI 24 ad bd V G) s.heap := hP
  have hl := lv_entry ([.ref x]) (n := 1) (Nat.le_of_ble_eq_true rfl)
  rw [lg_entry_eq]
  generalize (lg_sl ([.ref x]) ++ List.replicate (1 - (lg_sl ([.ref x])).length) Slot.unset).toArray = ls at hl ⊢
  have hl : lv_has ls 1 [(0, .ref x)] := hl
  refine lv_aload_n hx hb dX7_undo_0 rfl (lv_at hl 0 rfl) ?_
  refine va_get (D := (dC, dI)) (ci := 7) (v := .ref ac) (C := RX7) (T := TX7) (N := 11) hx hb hts i_X7_undo_X7 hown hK hP 0 rfl rfl 3 (by decide) (hts _ mx_X7_undo_1) (fun _ h9 => h9) rfl dX7_undo_1 ?_
  refine va_get (D := (dC, dI)) (ci := 0) (v := .int (nI az)) (C := RX0) (T := TX0) (N := 3) hx hb hts i_X7_undo_X0 hown hK hP 7 rfl rfl 2 (by decide) (hts _ mx_X7_undo_2) (fun _ h9 => h9) rfl dX7_undo_4 ?_
  refine lv_if_ne (tgt := 13) hx hb dX7_undo_7 (by decide) (fun c_1 => ?_) (fun c_1 => ?_)
  · have c_1 : ¬ (az = 0) := fun q_ => c_1 ((nI_eq (a := az) (b := 0) (by omega) (by omega)).mpr q_)
    refine lv_aload_n hx hb dX7_undo_13 rfl (lv_at hl 0 rfl) ?_
    refine va_get (D := (dC, dI)) (ci := 7) (v := .ref ac) (C := RX7) (T := TX7) (N := 11) hx hb hts i_X7_undo_X7 hown hK hP 0 rfl rfl 3 (by decide) (hts _ mx_X7_undo_1) (fun _ h9 => h9) rfl dX7_undo_14 ?_
    refine lv_aload_n hx hb dX7_undo_17 rfl (lv_at hl 0 rfl) ?_
    refine va_get (D := (dC, dI)) (ci := 7) (v := .ref no) (C := RX7) (T := TX7) (N := 11) hx hb hts i_X7_undo_X7 hown hK hP 0 rfl rfl 2 (by decide) (hts _ mx_X7_undo_4) (fun _ h9 => h9) rfl dX7_undo_18 ?_
    have hc_2 := cutP (cx := [(xo_0_rii ac be (nI q) (nI az)), (xJ be cL 24 fb), (xo_3_iiiiiiiirrrrr no nv0 nv1 nv2 nv3 (nI nhh) nv5 (nI nww) (nI nkk) nb1 nb2 nb3 nb4 nb5), (xI nb1 cI 6 ng1), (xI nb2 cI 6 ng2), (xI nb3 cI 6 ng3), (xI nb4 cI 6 ng4), (xI nb5 cI 6 ng5)]) hP hD hS hA [7, 8, 1, 2, 3, 4, 5, 6] (by decide +kernel) rfl
    refine va_callv (va_runV (As := [.ref no]) (rest := []) ⟨hx, hb, hml, hown, hts⟩ (r_X0_takeBack l dC dI cI cZ cL cJ s.heap.size ac be q az fb ad bd V G no nv0 nv1 nv2 nv3 nv5 nhh nww nkk nb1 nb2 nb3 nb4 nb5 ng1 ng2 ng3 ng4 ng5 (hfb) (hok) (by omega) (by omega) (by omega) (by omega) (by omega)) (cwV 1 hts gX7_undo_X0_takeBack rfl rfl rfl (by decide +kernel) ⟨Nat.le_of_ble_eq_true rfl, Nat.le_of_ble_eq_true rfl⟩) (pvW 0 7 hK hP rfl rfl hc_2) rfl rfl hl.1 rfl (lv_room (Nat.le_of_ble_eq_true rfl)) dX7_undo_21 ⟨Nat.le_of_ble_eq_true rfl, Nat.le_of_ble_eq_true rfl⟩) hS (fun q _ h => hc_2.2.2 q h) hc_2.2.2 (fun u_2 t_2 H1 locs ht hvm h_2 hB hz1 hk1 hS => ?_)
    refine xl_17_11 hB (fun Vn_2 Gn_2 qn_2 zn_2 hn_2 wn_2 kn_2 v0n_2 v1n_2 v2n_2 v3n_2 v5n_2 g1n_2 g2n_2 g3n_2 g4n_2 g5n_2 hP1 hD1 hF_2_0 hF_2_1 hF_2_2 hF_2_3 hF_2_4 hF_2_5 hF_2_6 hF_2_7 hF_2_8 => ?_)
    clear hB
    rw [ht] at hP1
    obtain ⟨hP, hD⟩ := va_joinP (wr := [(xo_7_rrrrrrrrrii x ro ta no ac im tr pl cs ak xf xg)]) (rx := [(xo_0_rii ac be (nI qn_2) (nI zn_2)), (xJ be cL 24 fb), (xo_3_iiiiiiiirrrrr no v0n_2 v1n_2 v2n_2 v3n_2 (nI hn_2) v5n_2 (nI wn_2) (nI kn_2) nb1 nb2 nb3 nb4 nb5), (xI nb1 cI 6 g1n_2), (xI nb2 cI 6 g2n_2), (xI nb3 cI 6 g3n_2), (xI nb4 cI 6 g4n_2), (xI nb5 cI 6 g5n_2)]) (pl1 := lvs cI 24 ad bd Vn_2 Gn_2) hP hD [7, 8, 1, 2, 3, 4, 5, 6] [0] rfl rfl (by decide +kernel) (by decide +kernel) hk1 hc_2.2.2 hP1 hD1
    generalize H1 = H at hP hS ⊢
    have hP : va_P (dC, dI) vwCl (([(xo_7_rrrrrrrrrii x ro ta no ac im tr pl cs ak xf xg), (xo_0_rii ac be (nI qn_2) (nI zn_2)), (xJ be cL 24 fb), (xo_3_iiiiiiiirrrrr no v0n_2 v1n_2 v2n_2 v3n_2 (nI hn_2) v5n_2 (nI wn_2) (nI kn_2) nb1 nb2 nb3 nb4 nb5), (xI nb1 cI 6 g1n_2), (xI nb2 cI 6 g2n_2), (xI nb3 cI 6 g3n_2), (xI nb4 cI 6 g4n_2), (xI nb5 cI 6 g5n_2)] : va_W) ++ lvs cI 24 ad bd Vn_2 Gn_2) H := hP
    have hD := dto hP hD
    refine lv_aload_n hx hb dX7_undo_24 rfl (lv_at hl 0 rfl) ?_
    refine va_get (D := (dC, dI)) (ci := 7) (v := .ref ac) (C := RX7) (T := TX7) (N := 11) hx hb hts i_X7_undo_X7 hown hK hP 0 rfl rfl 3 (by decide) (hts _ mx_X7_undo_1) (fun _ h9 => h9) rfl dX7_undo_25 ?_
    refine va_get (D := (dC, dI)) (ci := 0) (v := .int (nI zn_2)) (C := RX0) (T := TX0) (N := 3) hx hb hts i_X7_undo_X0 hown hK hP 1 rfl rfl 2 (by decide) (hts _ mx_X7_undo_2) (fun _ h9 => h9) rfl dX7_undo_28 ?_
    have hX9 := cut2P (cx := [(xo_7_rrrrrrrrrii x ro ta no ac im tr pl cs ak xf xg), (xo_3_iiiiiiiirrrrr no v0n_2 v1n_2 v2n_2 v3n_2 (nI hn_2) v5n_2 (nI wn_2) (nI kn_2) nb1 nb2 nb3 nb4 nb5), (xI nb1 cI 6 g1n_2), (xI nb2 cI 6 g2n_2), (xI nb3 cI 6 g3n_2), (xI nb4 cI 6 g4n_2), (xI nb5 cI 6 g5n_2), (xo_0_rii ac be (nI qn_2) (nI zn_2)), (xJ be cL 24 fb)]) hP hD [0, 3, 4, 5, 6, 7, 8, 1, 2] (by decide +kernel) rfl
    exact W.iret (v := (nI zn_2)) hx hb hr (fun t ht hW => ⟨⟨(nI zn_2), (), rfl, (lf_X7_undo_4 nhb nwb nkb hLv hfb hok hq haz c_1 hF_2_0 hF_2_1 hF_2_2 hF_2_3 hF_2_4 hF_2_5 hF_2_6 hF_2_7 hF_2_8), ⟨Vn_2, Gn_2, v0n_2, v1n_2, v2n_2, v3n_2, v5n_2, g1n_2, g2n_2, g3n_2, g4n_2, g5n_2, hn_2, wn_2, kn_2, qn_2, zn_2, va_Ht ht hX9.1, hX9.2, hF_2_0, (by omega), (by omega), (by omega), (by omega), (by omega), (lf_X7_undo_1 nhb nwb nkb hLv hfb hok hq haz c_1 hF_2_0 hF_2_1 hF_2_2 hF_2_3 hF_2_4 hF_2_5 hF_2_6 hF_2_7 hF_2_8), (lf_X7_undo_2 nhb nwb nkb hLv hfb hok hq haz c_1 hF_2_0 hF_2_1 hF_2_2 hF_2_3 hF_2_4 hF_2_5 hF_2_6 hF_2_7 hF_2_8), (lf_X7_undo_3 nhb nwb nkb hLv hfb hok hq haz c_1 hF_2_0 hF_2_1 hF_2_2 hF_2_3 hF_2_4 hF_2_5 hF_2_6 hF_2_7 hF_2_8)⟩⟩, hS.F ht⟩) hS.2.2 dX7_undo_31
  · have c_1 : az = 0 := (nI_eq (a := az) (b := 0) (by omega) (by omega)).mp c_1
    refine lv_ldc (own := RX7) (v := (-1000002)) hx hb hown (hts _ mx_X7_undo_3) dX7_undo_10 ?_
    have hX9 := cut2P (cx := [(xo_7_rrrrrrrrrii x ro ta no ac im tr pl cs ak xf xg), (xo_3_iiiiiiiirrrrr no nv0 nv1 nv2 nv3 (nI nhh) nv5 (nI nww) (nI nkk) nb1 nb2 nb3 nb4 nb5), (xI nb1 cI 6 ng1), (xI nb2 cI 6 ng2), (xI nb3 cI 6 ng3), (xI nb4 cI 6 ng4), (xI nb5 cI 6 ng5), (xo_0_rii ac be (nI q) (nI az)), (xJ be cL 24 fb)]) hP hD [0, 1, 2, 3, 4, 5, 6, 7, 8] (by decide +kernel) rfl
    exact W.iret (v := (-1000002)) hx hb hr (fun t ht hW => ⟨⟨(-1000002), (), rfl, (lf_X7_undo_8 nhb nwb nkb hLv hfb hok hq haz c_1), ⟨V, G, nv0, nv1, nv2, nv3, nv5, ng1, ng2, ng3, ng4, ng5, nhh, nww, nkk, q, az, va_Ht ht hX9.1, hX9.2, hok, (by omega), (by omega), (by omega), (by omega), (by omega), (lf_X7_undo_5 nhb nwb nkb hLv hfb hok hq haz c_1), (lf_X7_undo_6 nhb nwb nkb hLv hfb hok hq haz c_1), (lf_X7_undo_7 nhb nwb nkb hLv hfb hok hq haz c_1)⟩⟩, hS.F ht⟩) hS.2.2 dX7_undo_12
set_option maxHeartbeats 60000 in
theorem lf_X7_hours_1 {nv0 : Int32} {nv1 : Int32} {nv2 : Int32} {nv3 : Int32} {nv5 : Int32} {nhh : Nat} {nww : Nat} {nkk : Nat} {ng1 : Nat → Int32} {ng2 : Nat → Int32} {ng3 : Nat → Int32} {ng4 : Nat → Int32} {ng5 : Nat → Int32} {q : Nat} {az : Nat} {fb : Nat → Option Nat} {ad : Nat → Nat} {V : Nat → Nat → Int32} {G : Nat → Nat → Nat → Int32} {k0 : Int32} (nhb : nhh ≤ 999) (nwb : nww ≤ 6) (nkb : nkk ≤ 6) (hLv : okLv (nrm nv0 nv1 nv2 nv3 nhh nv5 nww nkk ng1 ng2 ng3 ng4 ng5)) (hfb : ∀ i : Nat, i < 24 → fb i = some (ad i)) (hq : q < 24) (haz : az ≤ 24) (f_1_0_0 : ¬ 0 < nv0) : (nrm nv0 nv1 nv2 nv3 nhh nv5 nww nkk ng1 ng2 ng3 ng4 ng5) = (s_hrs (nrm nv0 nv1 nv2 nv3 nhh nv5 nww nkk ng1 ng2 ng3 ng4 ng5) az (acX q az V G) k0).1 := by
  first
  | with_reducible exact hx_l (hx_g0 (hz_0 hLv nhb nwb nkb f_1_0_0))
  | with_reducible exact hx_z (hx_g0 (hz_0 hLv nhb nwb nkb f_1_0_0))
  | with_reducible exact hx_c (hx_g0 (hz_0 hLv nhb nwb nkb f_1_0_0))
  | with_reducible exact hx_a0 (hz_0 hLv nhb nwb nkb f_1_0_0)
  | omega
set_option maxHeartbeats 60000 in
theorem lf_X7_hours_2 {nv0 : Int32} {nv1 : Int32} {nv2 : Int32} {nv3 : Int32} {nv5 : Int32} {nhh : Nat} {nww : Nat} {nkk : Nat} {ng1 : Nat → Int32} {ng2 : Nat → Int32} {ng3 : Nat → Int32} {ng4 : Nat → Int32} {ng5 : Nat → Int32} {q : Nat} {az : Nat} {fb : Nat → Option Nat} {ad : Nat → Nat} {V : Nat → Nat → Int32} {G : Nat → Nat → Nat → Int32} {k0 : Int32} (nhb : nhh ≤ 999) (nwb : nww ≤ 6) (nkb : nkk ≤ 6) (hLv : okLv (nrm nv0 nv1 nv2 nv3 nhh nv5 nww nkk ng1 ng2 ng3 ng4 ng5)) (hfb : ∀ i : Nat, i < 24 → fb i = some (ad i)) (hq : q < 24) (haz : az ≤ 24) (f_1_0_0 : ¬ 0 < nv0) : az = (s_hrs (nrm nv0 nv1 nv2 nv3 nhh nv5 nww nkk ng1 ng2 ng3 ng4 ng5) az (acX q az V G) k0).2.1 := by
  first
  | with_reducible exact hx_l (hx_g0 (hz_0 hLv nhb nwb nkb f_1_0_0))
  | with_reducible exact hx_z (hx_g0 (hz_0 hLv nhb nwb nkb f_1_0_0))
  | with_reducible exact hx_c (hx_g0 (hz_0 hLv nhb nwb nkb f_1_0_0))
  | with_reducible exact hx_a0 (hz_0 hLv nhb nwb nkb f_1_0_0)
  | omega
set_option maxHeartbeats 60000 in
theorem lf_X7_hours_3 {nv0 : Int32} {nv1 : Int32} {nv2 : Int32} {nv3 : Int32} {nv5 : Int32} {nhh : Nat} {nww : Nat} {nkk : Nat} {ng1 : Nat → Int32} {ng2 : Nat → Int32} {ng3 : Nat → Int32} {ng4 : Nat → Int32} {ng5 : Nat → Int32} {q : Nat} {az : Nat} {fb : Nat → Option Nat} {ad : Nat → Nat} {V : Nat → Nat → Int32} {G : Nat → Nat → Nat → Int32} {k0 : Int32} (nhb : nhh ≤ 999) (nwb : nww ≤ 6) (nkb : nkk ≤ 6) (hLv : okLv (nrm nv0 nv1 nv2 nv3 nhh nv5 nww nkk ng1 ng2 ng3 ng4 ng5)) (hfb : ∀ i : Nat, i < 24 → fb i = some (ad i)) (hq : q < 24) (haz : az ≤ 24) (f_1_0_0 : ¬ 0 < nv0) : acX q az V G = (s_hrs (nrm nv0 nv1 nv2 nv3 nhh nv5 nww nkk ng1 ng2 ng3 ng4 ng5) az (acX q az V G) k0).2.2 := by
  first
  | with_reducible exact hx_l (hx_g0 (hz_0 hLv nhb nwb nkb f_1_0_0))
  | with_reducible exact hx_z (hx_g0 (hz_0 hLv nhb nwb nkb f_1_0_0))
  | with_reducible exact hx_c (hx_g0 (hz_0 hLv nhb nwb nkb f_1_0_0))
  | with_reducible exact hx_a0 (hz_0 hLv nhb nwb nkb f_1_0_0)
  | omega
set_option maxHeartbeats 60000 in
theorem lf_X7_hours_4 {nv0 : Int32} {nv1 : Int32} {nv2 : Int32} {nv3 : Int32} {nv5 : Int32} {nhh : Nat} {nww : Nat} {nkk : Nat} {ng1 : Nat → Int32} {ng2 : Nat → Int32} {ng3 : Nat → Int32} {ng4 : Nat → Int32} {ng5 : Nat → Int32} {q : Nat} {az : Nat} {fb : Nat → Option Nat} {ad : Nat → Nat} {k0 : Int32} (nhb : nhh ≤ 999) (nwb : nww ≤ 6) (nkb : nkk ≤ 6) (hLv : okLv (nrm nv0 nv1 nv2 nv3 nhh nv5 nww nkk ng1 ng2 ng3 ng4 ng5)) (hfb : ∀ i : Nat, i < 24 → fb i = some (ad i)) (hq : q < 24) (haz : az ≤ 24) (f_1_0_0 : ¬ 0 < nv0) : (-1000002) = (a_hrs (nrm nv0 nv1 nv2 nv3 nhh nv5 nww nkk ng1 ng2 ng3 ng4 ng5) k0) := by
  first
  | with_reducible exact hx_l (hx_g0 (hz_0 hLv nhb nwb nkb f_1_0_0))
  | with_reducible exact hx_z (hx_g0 (hz_0 hLv nhb nwb nkb f_1_0_0))
  | with_reducible exact hx_c (hx_g0 (hz_0 hLv nhb nwb nkb f_1_0_0))
  | with_reducible exact hx_a0 (hz_0 hLv nhb nwb nkb f_1_0_0)
  | omega
set_option maxHeartbeats 60000 in
theorem lf_X7_hours_5 {nv0 : Int32} {nv1 : Int32} {nv2 : Int32} {nv3 : Int32} {nv5 : Int32} {nhh : Nat} {nww : Nat} {nkk : Nat} {ng1 : Nat → Int32} {ng2 : Nat → Int32} {ng3 : Nat → Int32} {ng4 : Nat → Int32} {ng5 : Nat → Int32} {q : Nat} {az : Nat} {fb : Nat → Option Nat} {ad : Nat → Nat} {V : Nat → Nat → Int32} {G : Nat → Nat → Nat → Int32} {k0 : Int32} (nhb : nhh ≤ 999) (nwb : nww ≤ 6) (nkb : nkk ≤ 6) (hLv : okLv (nrm nv0 nv1 nv2 nv3 nhh nv5 nww nkk ng1 ng2 ng3 ng4 ng5)) (hfb : ∀ i : Nat, i < 24 → fb i = some (ad i)) (hq : q < 24) (haz : az ≤ 24) (f_1_1_0 : 0 < nv0) (c_4 : k0 < 1) : (nrm nv0 nv1 nv2 nv3 nhh nv5 nww nkk ng1 ng2 ng3 ng4 ng5) = (s_hrs (nrm nv0 nv1 nv2 nv3 nhh nv5 nww nkk ng1 ng2 ng3 ng4 ng5) az (acX q az V G) k0).1 := by
  first
  | with_reducible exact hx_l (hx_g1 c_4)
  | with_reducible exact hx_z (hx_g1 c_4)
  | with_reducible exact hx_c (hx_g1 c_4)
  | with_reducible exact hx_a1 (hz_1 hLv nhb nwb nkb f_1_1_0) (Or.inl c_4)
  | omega
set_option maxHeartbeats 60000 in
theorem lf_X7_hours_6 {nv0 : Int32} {nv1 : Int32} {nv2 : Int32} {nv3 : Int32} {nv5 : Int32} {nhh : Nat} {nww : Nat} {nkk : Nat} {ng1 : Nat → Int32} {ng2 : Nat → Int32} {ng3 : Nat → Int32} {ng4 : Nat → Int32} {ng5 : Nat → Int32} {q : Nat} {az : Nat} {fb : Nat → Option Nat} {ad : Nat → Nat} {V : Nat → Nat → Int32} {G : Nat → Nat → Nat → Int32} {k0 : Int32} (nhb : nhh ≤ 999) (nwb : nww ≤ 6) (nkb : nkk ≤ 6) (hLv : okLv (nrm nv0 nv1 nv2 nv3 nhh nv5 nww nkk ng1 ng2 ng3 ng4 ng5)) (hfb : ∀ i : Nat, i < 24 → fb i = some (ad i)) (hq : q < 24) (haz : az ≤ 24) (f_1_1_0 : 0 < nv0) (c_4 : k0 < 1) : az = (s_hrs (nrm nv0 nv1 nv2 nv3 nhh nv5 nww nkk ng1 ng2 ng3 ng4 ng5) az (acX q az V G) k0).2.1 := by
  first
  | with_reducible exact hx_l (hx_g1 c_4)
  | with_reducible exact hx_z (hx_g1 c_4)
  | with_reducible exact hx_c (hx_g1 c_4)
  | with_reducible exact hx_a1 (hz_1 hLv nhb nwb nkb f_1_1_0) (Or.inl c_4)
  | omega
set_option maxHeartbeats 60000 in
theorem lf_X7_hours_7 {nv0 : Int32} {nv1 : Int32} {nv2 : Int32} {nv3 : Int32} {nv5 : Int32} {nhh : Nat} {nww : Nat} {nkk : Nat} {ng1 : Nat → Int32} {ng2 : Nat → Int32} {ng3 : Nat → Int32} {ng4 : Nat → Int32} {ng5 : Nat → Int32} {q : Nat} {az : Nat} {fb : Nat → Option Nat} {ad : Nat → Nat} {V : Nat → Nat → Int32} {G : Nat → Nat → Nat → Int32} {k0 : Int32} (nhb : nhh ≤ 999) (nwb : nww ≤ 6) (nkb : nkk ≤ 6) (hLv : okLv (nrm nv0 nv1 nv2 nv3 nhh nv5 nww nkk ng1 ng2 ng3 ng4 ng5)) (hfb : ∀ i : Nat, i < 24 → fb i = some (ad i)) (hq : q < 24) (haz : az ≤ 24) (f_1_1_0 : 0 < nv0) (c_4 : k0 < 1) : acX q az V G = (s_hrs (nrm nv0 nv1 nv2 nv3 nhh nv5 nww nkk ng1 ng2 ng3 ng4 ng5) az (acX q az V G) k0).2.2 := by
  first
  | with_reducible exact hx_l (hx_g1 c_4)
  | with_reducible exact hx_z (hx_g1 c_4)
  | with_reducible exact hx_c (hx_g1 c_4)
  | with_reducible exact hx_a1 (hz_1 hLv nhb nwb nkb f_1_1_0) (Or.inl c_4)
  | omega
set_option maxHeartbeats 60000 in
theorem lf_X7_hours_8 {nv0 : Int32} {nv1 : Int32} {nv2 : Int32} {nv3 : Int32} {nv5 : Int32} {nhh : Nat} {nww : Nat} {nkk : Nat} {ng1 : Nat → Int32} {ng2 : Nat → Int32} {ng3 : Nat → Int32} {ng4 : Nat → Int32} {ng5 : Nat → Int32} {q : Nat} {az : Nat} {fb : Nat → Option Nat} {ad : Nat → Nat} {k0 : Int32} (nhb : nhh ≤ 999) (nwb : nww ≤ 6) (nkb : nkk ≤ 6) (hLv : okLv (nrm nv0 nv1 nv2 nv3 nhh nv5 nww nkk ng1 ng2 ng3 ng4 ng5)) (hfb : ∀ i : Nat, i < 24 → fb i = some (ad i)) (hq : q < 24) (haz : az ≤ 24) (f_1_1_0 : 0 < nv0) (c_4 : k0 < 1) : (-1000001) = (a_hrs (nrm nv0 nv1 nv2 nv3 nhh nv5 nww nkk ng1 ng2 ng3 ng4 ng5) k0) := by
  first
  | with_reducible exact hx_l (hx_g1 c_4)
  | with_reducible exact hx_z (hx_g1 c_4)
  | with_reducible exact hx_c (hx_g1 c_4)
  | with_reducible exact hx_a1 (hz_1 hLv nhb nwb nkb f_1_1_0) (Or.inl c_4)
  | omega
set_option maxHeartbeats 60000 in
theorem lf_X7_hours_9 {nv0 : Int32} {nv1 : Int32} {nv2 : Int32} {nv3 : Int32} {nv5 : Int32} {nhh : Nat} {nww : Nat} {nkk : Nat} {ng1 : Nat → Int32} {ng2 : Nat → Int32} {ng3 : Nat → Int32} {ng4 : Nat → Int32} {ng5 : Nat → Int32} {q : Nat} {az : Nat} {fb : Nat → Option Nat} {ad : Nat → Nat} {V : Nat → Nat → Int32} {G : Nat → Nat → Nat → Int32} {j_6 : Nat} {w_14 : Int32} {w_15 : Nat → Int32} {w_16 : Nat → Int32} {w_17 : Nat → Int32} {w_18 : Nat} {w_19 : Nat} {w_20 : Nat → Nat → Int32} {w_21 : Nat → Nat → Nat → Int32} {ii : Nat} {Vn_34 : Nat → Nat → Int32} {Gn_34 : Nat → Nat → Nat → Int32} {qn_34 : Nat} {zn_34 : Nat} {v5n_35 : Int32} {g3n_35 : Nat → Int32} {g4n_35 : Nat → Int32} {g5n_35 : Nat → Int32} (nhb : nhh ≤ 999) (nwb : nww ≤ 6) (nkb : nkk ≤ 6) (hLv : okLv (nrm nv0 nv1 nv2 nv3 nhh nv5 nww nkk ng1 ng2 ng3 ng4 ng5)) (hfb : ∀ i : Nat, i < 24 → fb i = some (ad i)) (hq : q < 24) (haz : az ≤ 24) (f_1_1_0 : 0 < nv0) (c_4 : ¬ ((nI j_6) < 1)) (c_5 : (nI j_6) ≤ 24) (hj_6 : j_6 ≤ 24) (c_8 : (nhh + j_6) ≤ 999) (hii : ii < j_6) (haf_0 : (hrI ii (nrm nv0 nv1 nv2 nv3 nhh nv5 nww nkk ng1 ng2 ng3 ng4 ng5) az (acX q az V G) = ((nrm nv0 nv1 nv2 nv3 (nhh + ii) w_14 nww nkk ng1 ng2 w_15 w_16 w_17), w_19, acX w_18 w_19 w_20 w_21))) (hnb_w_18 : w_18 ≤ 23) (hnb_w_19 : w_19 ≤ 24) (hF_34_0 : (∀ i : Nat, i < 24 → okL (Vn_34 i))) (hF_34_1 : qn_34 < 24) (hF_34_2 : zn_34 ≤ 24) (hF_34_3 : nrV (Vn_34 w_18) (Gn_34 w_18) = (nrm nv0 nv1 nv2 nv3 (nhh + ii) w_14 nww nkk ng1 ng2 w_15 w_16 w_17)) (hF_34_4 : (∀ i : Nat, i < 24 → i ≠ w_18 → nrV (Vn_34 i) (Gn_34 i) = nrV (w_20 i) (w_21 i))) (hF_34_5 : qn_34 = (w_18 + 1) % 24) (hF_34_6 : zn_34 = ntN w_19) (hF_35_0 : paX nv0 nv1 nv2 nv3 ng2 (wdX ng1 nww (nhh + ii) 0) nkk (w_14, w_15, w_16, w_17) = (v5n_35, g3n_35, g4n_35, g5n_35)) : hrI (ii + 1) (nrm nv0 nv1 nv2 nv3 nhh nv5 nww nkk ng1 ng2 ng3 ng4 ng5) az (acX q az V G) = ((nrm nv0 nv1 nv2 nv3 (nhh + (ii + 1)) v5n_35 nww nkk ng1 ng2 g3n_35 g4n_35 g5n_35), zn_34, acX qn_34 zn_34 Vn_34 Gn_34) := by
  subst_vars
  exact hr_stepX (okLv_N hLv (hz_1 hLv nhb nwb nkb f_1_1_0)) (by omega) (by omega) nwb nkb (by omega) (by omega) haf_0 (by assumption) (by assumption) (by assumption)
set_option maxHeartbeats 60000 in
theorem lf_X7_hours_10 {nv0 : Int32} {nv1 : Int32} {nv2 : Int32} {nv3 : Int32} {nv5 : Int32} {nhh : Nat} {nww : Nat} {nkk : Nat} {ng1 : Nat → Int32} {ng2 : Nat → Int32} {ng3 : Nat → Int32} {ng4 : Nat → Int32} {ng5 : Nat → Int32} {q : Nat} {az : Nat} {fb : Nat → Option Nat} {ad : Nat → Nat} {V : Nat → Nat → Int32} {G : Nat → Nat → Nat → Int32} {j_6 : Nat} {w_14 : Int32} {w_15 : Nat → Int32} {w_16 : Nat → Int32} {w_17 : Nat → Int32} {w_18 : Nat} {w_19 : Nat} {w_20 : Nat → Nat → Int32} {w_21 : Nat → Nat → Nat → Int32} (nhb : nhh ≤ 999) (nwb : nww ≤ 6) (nkb : nkk ≤ 6) (hLv : okLv (nrm nv0 nv1 nv2 nv3 nhh nv5 nww nkk ng1 ng2 ng3 ng4 ng5)) (hfb : ∀ i : Nat, i < 24 → fb i = some (ad i)) (hq : q < 24) (haz : az ≤ 24) (f_1_1_0 : 0 < nv0) (c_4 : ¬ ((nI j_6) < 1)) (c_5 : (nI j_6) ≤ 24) (hj_6 : j_6 ≤ 24) (c_8 : (nhh + j_6) ≤ 999) (haf_0 : (hrI j_6 (nrm nv0 nv1 nv2 nv3 nhh nv5 nww nkk ng1 ng2 ng3 ng4 ng5) az (acX q az V G) = ((nrm nv0 nv1 nv2 nv3 (nhh + j_6) w_14 nww nkk ng1 ng2 w_15 w_16 w_17), w_19, acX w_18 w_19 w_20 w_21))) (hnb_w_18 : w_18 ≤ 23) (hnb_w_19 : w_19 ≤ 24) : (nrm nv0 nv1 nv2 nv3 (nhh + j_6) w_14 nww nkk ng1 ng2 w_15 w_16 w_17) = (s_hrs (nrm nv0 nv1 nv2 nv3 nhh nv5 nww nkk ng1 ng2 ng3 ng4 ng5) az (acX q az V G) (nI j_6)).1 := by
  first
  | with_reducible exact hx_l (hx_g1 c_4)
  | with_reducible exact hx_z (hx_g1 c_4)
  | with_reducible exact hx_c (hx_g1 c_4)
  | with_reducible exact hx_a1 (hz_1 hLv nhb nwb nkb f_1_1_0) (Or.inl c_4)
  | with_reducible exact hx_l (hx_g2 c_5)
  | with_reducible exact hx_z (hx_g2 c_5)
  | with_reducible exact hx_c (hx_g2 c_5)
  | with_reducible exact hx_a1 (hz_1 hLv nhb nwb nkb f_1_1_0) (Or.inr (i_nle.mp c_5))
  | with_reducible exact (hrs_pos c_4 (hz_1 hLv nhb nwb nkb f_1_1_0) hj_6 nr5 c_8 haf_0).1
  | with_reducible exact (hrs_pos c_4 (hz_1 hLv nhb nwb nkb f_1_1_0) hj_6 nr5 c_8 haf_0).2.1
  | with_reducible exact (hrs_pos c_4 (hz_1 hLv nhb nwb nkb f_1_1_0) hj_6 nr5 c_8 haf_0).2.2.1
  | with_reducible exact nr7.symm.trans (hrs_pos c_4 (hz_1 hLv nhb nwb nkb f_1_1_0) hj_6 nr5 c_8 haf_0).2.2.2
  | with_reducible exact pr_1 (hrs_neg c_4 (hz_1 hLv nhb nwb nkb f_1_1_0) hj_6 nr5 nhb c_8)
  | with_reducible exact pr_2 (hrs_neg c_4 (hz_1 hLv nhb nwb nkb f_1_1_0) hj_6 nr5 nhb c_8)
  | with_reducible exact pr_3 (hrs_neg c_4 (hz_1 hLv nhb nwb nkb f_1_1_0) hj_6 nr5 nhb c_8)
  | with_reducible exact (hrs_nega c_4 (hz_1 hLv nhb nwb nkb f_1_1_0) hj_6 nr5 nhb c_8).symm
  | omega
set_option maxHeartbeats 60000 in
theorem lf_X7_hours_11 {nv0 : Int32} {nv1 : Int32} {nv2 : Int32} {nv3 : Int32} {nv5 : Int32} {nhh : Nat} {nww : Nat} {nkk : Nat} {ng1 : Nat → Int32} {ng2 : Nat → Int32} {ng3 : Nat → Int32} {ng4 : Nat → Int32} {ng5 : Nat → Int32} {q : Nat} {az : Nat} {fb : Nat → Option Nat} {ad : Nat → Nat} {V : Nat → Nat → Int32} {G : Nat → Nat → Nat → Int32} {j_6 : Nat} {w_14 : Int32} {w_15 : Nat → Int32} {w_16 : Nat → Int32} {w_17 : Nat → Int32} {w_18 : Nat} {w_19 : Nat} {w_20 : Nat → Nat → Int32} {w_21 : Nat → Nat → Nat → Int32} (nhb : nhh ≤ 999) (nwb : nww ≤ 6) (nkb : nkk ≤ 6) (hLv : okLv (nrm nv0 nv1 nv2 nv3 nhh nv5 nww nkk ng1 ng2 ng3 ng4 ng5)) (hfb : ∀ i : Nat, i < 24 → fb i = some (ad i)) (hq : q < 24) (haz : az ≤ 24) (f_1_1_0 : 0 < nv0) (c_4 : ¬ ((nI j_6) < 1)) (c_5 : (nI j_6) ≤ 24) (hj_6 : j_6 ≤ 24) (c_8 : (nhh + j_6) ≤ 999) (haf_0 : (hrI j_6 (nrm nv0 nv1 nv2 nv3 nhh nv5 nww nkk ng1 ng2 ng3 ng4 ng5) az (acX q az V G) = ((nrm nv0 nv1 nv2 nv3 (nhh + j_6) w_14 nww nkk ng1 ng2 w_15 w_16 w_17), w_19, acX w_18 w_19 w_20 w_21))) (hnb_w_18 : w_18 ≤ 23) (hnb_w_19 : w_19 ≤ 24) : w_19 = (s_hrs (nrm nv0 nv1 nv2 nv3 nhh nv5 nww nkk ng1 ng2 ng3 ng4 ng5) az (acX q az V G) (nI j_6)).2.1 := by
  first
  | with_reducible exact hx_l (hx_g1 c_4)
  | with_reducible exact hx_z (hx_g1 c_4)
  | with_reducible exact hx_c (hx_g1 c_4)
  | with_reducible exact hx_a1 (hz_1 hLv nhb nwb nkb f_1_1_0) (Or.inl c_4)
  | with_reducible exact hx_l (hx_g2 c_5)
  | with_reducible exact hx_z (hx_g2 c_5)
  | with_reducible exact hx_c (hx_g2 c_5)
  | with_reducible exact hx_a1 (hz_1 hLv nhb nwb nkb f_1_1_0) (Or.inr (i_nle.mp c_5))
  | with_reducible exact (hrs_pos c_4 (hz_1 hLv nhb nwb nkb f_1_1_0) hj_6 nr5 c_8 haf_0).1
  | with_reducible exact (hrs_pos c_4 (hz_1 hLv nhb nwb nkb f_1_1_0) hj_6 nr5 c_8 haf_0).2.1
  | with_reducible exact (hrs_pos c_4 (hz_1 hLv nhb nwb nkb f_1_1_0) hj_6 nr5 c_8 haf_0).2.2.1
  | with_reducible exact nr7.symm.trans (hrs_pos c_4 (hz_1 hLv nhb nwb nkb f_1_1_0) hj_6 nr5 c_8 haf_0).2.2.2
  | with_reducible exact pr_1 (hrs_neg c_4 (hz_1 hLv nhb nwb nkb f_1_1_0) hj_6 nr5 nhb c_8)
  | with_reducible exact pr_2 (hrs_neg c_4 (hz_1 hLv nhb nwb nkb f_1_1_0) hj_6 nr5 nhb c_8)
  | with_reducible exact pr_3 (hrs_neg c_4 (hz_1 hLv nhb nwb nkb f_1_1_0) hj_6 nr5 nhb c_8)
  | with_reducible exact (hrs_nega c_4 (hz_1 hLv nhb nwb nkb f_1_1_0) hj_6 nr5 nhb c_8).symm
  | omega
set_option maxHeartbeats 60000 in
theorem lf_X7_hours_12 {nv0 : Int32} {nv1 : Int32} {nv2 : Int32} {nv3 : Int32} {nv5 : Int32} {nhh : Nat} {nww : Nat} {nkk : Nat} {ng1 : Nat → Int32} {ng2 : Nat → Int32} {ng3 : Nat → Int32} {ng4 : Nat → Int32} {ng5 : Nat → Int32} {q : Nat} {az : Nat} {fb : Nat → Option Nat} {ad : Nat → Nat} {V : Nat → Nat → Int32} {G : Nat → Nat → Nat → Int32} {j_6 : Nat} {w_14 : Int32} {w_15 : Nat → Int32} {w_16 : Nat → Int32} {w_17 : Nat → Int32} {w_18 : Nat} {w_19 : Nat} {w_20 : Nat → Nat → Int32} {w_21 : Nat → Nat → Nat → Int32} (nhb : nhh ≤ 999) (nwb : nww ≤ 6) (nkb : nkk ≤ 6) (hLv : okLv (nrm nv0 nv1 nv2 nv3 nhh nv5 nww nkk ng1 ng2 ng3 ng4 ng5)) (hfb : ∀ i : Nat, i < 24 → fb i = some (ad i)) (hq : q < 24) (haz : az ≤ 24) (f_1_1_0 : 0 < nv0) (c_4 : ¬ ((nI j_6) < 1)) (c_5 : (nI j_6) ≤ 24) (hj_6 : j_6 ≤ 24) (c_8 : (nhh + j_6) ≤ 999) (haf_0 : (hrI j_6 (nrm nv0 nv1 nv2 nv3 nhh nv5 nww nkk ng1 ng2 ng3 ng4 ng5) az (acX q az V G) = ((nrm nv0 nv1 nv2 nv3 (nhh + j_6) w_14 nww nkk ng1 ng2 w_15 w_16 w_17), w_19, acX w_18 w_19 w_20 w_21))) (hnb_w_18 : w_18 ≤ 23) (hnb_w_19 : w_19 ≤ 24) : acX w_18 w_19 w_20 w_21 = (s_hrs (nrm nv0 nv1 nv2 nv3 nhh nv5 nww nkk ng1 ng2 ng3 ng4 ng5) az (acX q az V G) (nI j_6)).2.2 := by
  first
  | with_reducible exact hx_l (hx_g1 c_4)
  | with_reducible exact hx_z (hx_g1 c_4)
  | with_reducible exact hx_c (hx_g1 c_4)
  | with_reducible exact hx_a1 (hz_1 hLv nhb nwb nkb f_1_1_0) (Or.inl c_4)
  | with_reducible exact hx_l (hx_g2 c_5)
  | with_reducible exact hx_z (hx_g2 c_5)
  | with_reducible exact hx_c (hx_g2 c_5)
  | with_reducible exact hx_a1 (hz_1 hLv nhb nwb nkb f_1_1_0) (Or.inr (i_nle.mp c_5))
  | with_reducible exact (hrs_pos c_4 (hz_1 hLv nhb nwb nkb f_1_1_0) hj_6 nr5 c_8 haf_0).1
  | with_reducible exact (hrs_pos c_4 (hz_1 hLv nhb nwb nkb f_1_1_0) hj_6 nr5 c_8 haf_0).2.1
  | with_reducible exact (hrs_pos c_4 (hz_1 hLv nhb nwb nkb f_1_1_0) hj_6 nr5 c_8 haf_0).2.2.1
  | with_reducible exact nr7.symm.trans (hrs_pos c_4 (hz_1 hLv nhb nwb nkb f_1_1_0) hj_6 nr5 c_8 haf_0).2.2.2
  | with_reducible exact pr_1 (hrs_neg c_4 (hz_1 hLv nhb nwb nkb f_1_1_0) hj_6 nr5 nhb c_8)
  | with_reducible exact pr_2 (hrs_neg c_4 (hz_1 hLv nhb nwb nkb f_1_1_0) hj_6 nr5 nhb c_8)
  | with_reducible exact pr_3 (hrs_neg c_4 (hz_1 hLv nhb nwb nkb f_1_1_0) hj_6 nr5 nhb c_8)
  | with_reducible exact (hrs_nega c_4 (hz_1 hLv nhb nwb nkb f_1_1_0) hj_6 nr5 nhb c_8).symm
  | omega
set_option maxHeartbeats 60000 in
theorem lf_X7_hours_13 {nv0 : Int32} {nv1 : Int32} {nv2 : Int32} {nv3 : Int32} {nv5 : Int32} {nhh : Nat} {nww : Nat} {nkk : Nat} {ng1 : Nat → Int32} {ng2 : Nat → Int32} {ng3 : Nat → Int32} {ng4 : Nat → Int32} {ng5 : Nat → Int32} {q : Nat} {az : Nat} {fb : Nat → Option Nat} {ad : Nat → Nat} {V : Nat → Nat → Int32} {G : Nat → Nat → Nat → Int32} {j_6 : Nat} {w_14 : Int32} {w_15 : Nat → Int32} {w_16 : Nat → Int32} {w_17 : Nat → Int32} {w_18 : Nat} {w_19 : Nat} {w_20 : Nat → Nat → Int32} {w_21 : Nat → Nat → Nat → Int32} (nhb : nhh ≤ 999) (nwb : nww ≤ 6) (nkb : nkk ≤ 6) (hLv : okLv (nrm nv0 nv1 nv2 nv3 nhh nv5 nww nkk ng1 ng2 ng3 ng4 ng5)) (hfb : ∀ i : Nat, i < 24 → fb i = some (ad i)) (hq : q < 24) (haz : az ≤ 24) (f_1_1_0 : 0 < nv0) (c_4 : ¬ ((nI j_6) < 1)) (c_5 : (nI j_6) ≤ 24) (hj_6 : j_6 ≤ 24) (c_8 : (nhh + j_6) ≤ 999) (haf_0 : (hrI j_6 (nrm nv0 nv1 nv2 nv3 nhh nv5 nww nkk ng1 ng2 ng3 ng4 ng5) az (acX q az V G) = ((nrm nv0 nv1 nv2 nv3 (nhh + j_6) w_14 nww nkk ng1 ng2 w_15 w_16 w_17), w_19, acX w_18 w_19 w_20 w_21))) (hnb_w_18 : w_18 ≤ 23) (hnb_w_19 : w_19 ≤ 24) : w_14 = (a_hrs (nrm nv0 nv1 nv2 nv3 nhh nv5 nww nkk ng1 ng2 ng3 ng4 ng5) (nI j_6)) := by
  first
  | with_reducible exact hx_l (hx_g1 c_4)
  | with_reducible exact hx_z (hx_g1 c_4)
  | with_reducible exact hx_c (hx_g1 c_4)
  | with_reducible exact hx_a1 (hz_1 hLv nhb nwb nkb f_1_1_0) (Or.inl c_4)
  | with_reducible exact hx_l (hx_g2 c_5)
  | with_reducible exact hx_z (hx_g2 c_5)
  | with_reducible exact hx_c (hx_g2 c_5)
  | with_reducible exact hx_a1 (hz_1 hLv nhb nwb nkb f_1_1_0) (Or.inr (i_nle.mp c_5))
  | with_reducible exact (hrs_pos c_4 (hz_1 hLv nhb nwb nkb f_1_1_0) hj_6 nr5 c_8 haf_0).1
  | with_reducible exact (hrs_pos c_4 (hz_1 hLv nhb nwb nkb f_1_1_0) hj_6 nr5 c_8 haf_0).2.1
  | with_reducible exact (hrs_pos c_4 (hz_1 hLv nhb nwb nkb f_1_1_0) hj_6 nr5 c_8 haf_0).2.2.1
  | with_reducible exact nr7.symm.trans (hrs_pos c_4 (hz_1 hLv nhb nwb nkb f_1_1_0) hj_6 nr5 c_8 haf_0).2.2.2
  | with_reducible exact pr_1 (hrs_neg c_4 (hz_1 hLv nhb nwb nkb f_1_1_0) hj_6 nr5 nhb c_8)
  | with_reducible exact pr_2 (hrs_neg c_4 (hz_1 hLv nhb nwb nkb f_1_1_0) hj_6 nr5 nhb c_8)
  | with_reducible exact pr_3 (hrs_neg c_4 (hz_1 hLv nhb nwb nkb f_1_1_0) hj_6 nr5 nhb c_8)
  | with_reducible exact (hrs_nega c_4 (hz_1 hLv nhb nwb nkb f_1_1_0) hj_6 nr5 nhb c_8).symm
  | omega
set_option maxHeartbeats 60000 in
theorem lf_X7_hours_14 {nv0 : Int32} {nv1 : Int32} {nv2 : Int32} {nv3 : Int32} {nv5 : Int32} {nhh : Nat} {nww : Nat} {nkk : Nat} {ng1 : Nat → Int32} {ng2 : Nat → Int32} {ng3 : Nat → Int32} {ng4 : Nat → Int32} {ng5 : Nat → Int32} {q : Nat} {az : Nat} {fb : Nat → Option Nat} {ad : Nat → Nat} {V : Nat → Nat → Int32} {G : Nat → Nat → Nat → Int32} {j_6 : Nat} (nhb : nhh ≤ 999) (nwb : nww ≤ 6) (nkb : nkk ≤ 6) (hLv : okLv (nrm nv0 nv1 nv2 nv3 nhh nv5 nww nkk ng1 ng2 ng3 ng4 ng5)) (hfb : ∀ i : Nat, i < 24 → fb i = some (ad i)) (hq : q < 24) (haz : az ≤ 24) (f_1_1_0 : 0 < nv0) (c_4 : ¬ ((nI j_6) < 1)) (c_5 : (nI j_6) ≤ 24) (hj_6 : j_6 ≤ 24) (c_8 : ¬ ((nhh + j_6) ≤ 999)) : (nrm nv0 nv1 nv2 nv3 nhh nv5 nww nkk ng1 ng2 ng3 ng4 ng5) = (s_hrs (nrm nv0 nv1 nv2 nv3 nhh nv5 nww nkk ng1 ng2 ng3 ng4 ng5) az (acX q az V G) (nI j_6)).1 := by
  first
  | with_reducible exact hx_l (hx_g1 c_4)
  | with_reducible exact hx_z (hx_g1 c_4)
  | with_reducible exact hx_c (hx_g1 c_4)
  | with_reducible exact hx_a1 (hz_1 hLv nhb nwb nkb f_1_1_0) (Or.inl c_4)
  | with_reducible exact hx_l (hx_g2 c_5)
  | with_reducible exact hx_z (hx_g2 c_5)
  | with_reducible exact hx_c (hx_g2 c_5)
  | with_reducible exact hx_a1 (hz_1 hLv nhb nwb nkb f_1_1_0) (Or.inr (i_nle.mp c_5))
  | with_reducible exact pr_1 (hrs_neg c_4 (hz_1 hLv nhb nwb nkb f_1_1_0) hj_6 nr5 nhb c_8)
  | with_reducible exact pr_2 (hrs_neg c_4 (hz_1 hLv nhb nwb nkb f_1_1_0) hj_6 nr5 nhb c_8)
  | with_reducible exact pr_3 (hrs_neg c_4 (hz_1 hLv nhb nwb nkb f_1_1_0) hj_6 nr5 nhb c_8)
  | with_reducible exact (hrs_nega c_4 (hz_1 hLv nhb nwb nkb f_1_1_0) hj_6 nr5 nhb c_8).symm
  | omega
set_option maxHeartbeats 60000 in
theorem lf_X7_hours_15 {nv0 : Int32} {nv1 : Int32} {nv2 : Int32} {nv3 : Int32} {nv5 : Int32} {nhh : Nat} {nww : Nat} {nkk : Nat} {ng1 : Nat → Int32} {ng2 : Nat → Int32} {ng3 : Nat → Int32} {ng4 : Nat → Int32} {ng5 : Nat → Int32} {q : Nat} {az : Nat} {fb : Nat → Option Nat} {ad : Nat → Nat} {V : Nat → Nat → Int32} {G : Nat → Nat → Nat → Int32} {j_6 : Nat} (nhb : nhh ≤ 999) (nwb : nww ≤ 6) (nkb : nkk ≤ 6) (hLv : okLv (nrm nv0 nv1 nv2 nv3 nhh nv5 nww nkk ng1 ng2 ng3 ng4 ng5)) (hfb : ∀ i : Nat, i < 24 → fb i = some (ad i)) (hq : q < 24) (haz : az ≤ 24) (f_1_1_0 : 0 < nv0) (c_4 : ¬ ((nI j_6) < 1)) (c_5 : (nI j_6) ≤ 24) (hj_6 : j_6 ≤ 24) (c_8 : ¬ ((nhh + j_6) ≤ 999)) : az = (s_hrs (nrm nv0 nv1 nv2 nv3 nhh nv5 nww nkk ng1 ng2 ng3 ng4 ng5) az (acX q az V G) (nI j_6)).2.1 := by
  first
  | with_reducible exact hx_l (hx_g1 c_4)
  | with_reducible exact hx_z (hx_g1 c_4)
  | with_reducible exact hx_c (hx_g1 c_4)
  | with_reducible exact hx_a1 (hz_1 hLv nhb nwb nkb f_1_1_0) (Or.inl c_4)
  | with_reducible exact hx_l (hx_g2 c_5)
  | with_reducible exact hx_z (hx_g2 c_5)
  | with_reducible exact hx_c (hx_g2 c_5)
  | with_reducible exact hx_a1 (hz_1 hLv nhb nwb nkb f_1_1_0) (Or.inr (i_nle.mp c_5))
  | with_reducible exact pr_1 (hrs_neg c_4 (hz_1 hLv nhb nwb nkb f_1_1_0) hj_6 nr5 nhb c_8)
  | with_reducible exact pr_2 (hrs_neg c_4 (hz_1 hLv nhb nwb nkb f_1_1_0) hj_6 nr5 nhb c_8)
  | with_reducible exact pr_3 (hrs_neg c_4 (hz_1 hLv nhb nwb nkb f_1_1_0) hj_6 nr5 nhb c_8)
  | with_reducible exact (hrs_nega c_4 (hz_1 hLv nhb nwb nkb f_1_1_0) hj_6 nr5 nhb c_8).symm
  | omega
set_option maxHeartbeats 60000 in
theorem lf_X7_hours_16 {nv0 : Int32} {nv1 : Int32} {nv2 : Int32} {nv3 : Int32} {nv5 : Int32} {nhh : Nat} {nww : Nat} {nkk : Nat} {ng1 : Nat → Int32} {ng2 : Nat → Int32} {ng3 : Nat → Int32} {ng4 : Nat → Int32} {ng5 : Nat → Int32} {q : Nat} {az : Nat} {fb : Nat → Option Nat} {ad : Nat → Nat} {V : Nat → Nat → Int32} {G : Nat → Nat → Nat → Int32} {j_6 : Nat} (nhb : nhh ≤ 999) (nwb : nww ≤ 6) (nkb : nkk ≤ 6) (hLv : okLv (nrm nv0 nv1 nv2 nv3 nhh nv5 nww nkk ng1 ng2 ng3 ng4 ng5)) (hfb : ∀ i : Nat, i < 24 → fb i = some (ad i)) (hq : q < 24) (haz : az ≤ 24) (f_1_1_0 : 0 < nv0) (c_4 : ¬ ((nI j_6) < 1)) (c_5 : (nI j_6) ≤ 24) (hj_6 : j_6 ≤ 24) (c_8 : ¬ ((nhh + j_6) ≤ 999)) : acX q az V G = (s_hrs (nrm nv0 nv1 nv2 nv3 nhh nv5 nww nkk ng1 ng2 ng3 ng4 ng5) az (acX q az V G) (nI j_6)).2.2 := by
  first
  | with_reducible exact hx_l (hx_g1 c_4)
  | with_reducible exact hx_z (hx_g1 c_4)
  | with_reducible exact hx_c (hx_g1 c_4)
  | with_reducible exact hx_a1 (hz_1 hLv nhb nwb nkb f_1_1_0) (Or.inl c_4)
  | with_reducible exact hx_l (hx_g2 c_5)
  | with_reducible exact hx_z (hx_g2 c_5)
  | with_reducible exact hx_c (hx_g2 c_5)
  | with_reducible exact hx_a1 (hz_1 hLv nhb nwb nkb f_1_1_0) (Or.inr (i_nle.mp c_5))
  | with_reducible exact pr_1 (hrs_neg c_4 (hz_1 hLv nhb nwb nkb f_1_1_0) hj_6 nr5 nhb c_8)
  | with_reducible exact pr_2 (hrs_neg c_4 (hz_1 hLv nhb nwb nkb f_1_1_0) hj_6 nr5 nhb c_8)
  | with_reducible exact pr_3 (hrs_neg c_4 (hz_1 hLv nhb nwb nkb f_1_1_0) hj_6 nr5 nhb c_8)
  | with_reducible exact (hrs_nega c_4 (hz_1 hLv nhb nwb nkb f_1_1_0) hj_6 nr5 nhb c_8).symm
  | omega
set_option maxHeartbeats 60000 in
theorem lf_X7_hours_17 {nv0 : Int32} {nv1 : Int32} {nv2 : Int32} {nv3 : Int32} {nv5 : Int32} {nhh : Nat} {nww : Nat} {nkk : Nat} {ng1 : Nat → Int32} {ng2 : Nat → Int32} {ng3 : Nat → Int32} {ng4 : Nat → Int32} {ng5 : Nat → Int32} {q : Nat} {az : Nat} {fb : Nat → Option Nat} {ad : Nat → Nat} {j_6 : Nat} (nhb : nhh ≤ 999) (nwb : nww ≤ 6) (nkb : nkk ≤ 6) (hLv : okLv (nrm nv0 nv1 nv2 nv3 nhh nv5 nww nkk ng1 ng2 ng3 ng4 ng5)) (hfb : ∀ i : Nat, i < 24 → fb i = some (ad i)) (hq : q < 24) (haz : az ≤ 24) (f_1_1_0 : 0 < nv0) (c_4 : ¬ ((nI j_6) < 1)) (c_5 : (nI j_6) ≤ 24) (hj_6 : j_6 ≤ 24) (c_8 : ¬ ((nhh + j_6) ≤ 999)) : (-1000003) = (a_hrs (nrm nv0 nv1 nv2 nv3 nhh nv5 nww nkk ng1 ng2 ng3 ng4 ng5) (nI j_6)) := by
  first
  | with_reducible exact hx_l (hx_g1 c_4)
  | with_reducible exact hx_z (hx_g1 c_4)
  | with_reducible exact hx_c (hx_g1 c_4)
  | with_reducible exact hx_a1 (hz_1 hLv nhb nwb nkb f_1_1_0) (Or.inl c_4)
  | with_reducible exact hx_l (hx_g2 c_5)
  | with_reducible exact hx_z (hx_g2 c_5)
  | with_reducible exact hx_c (hx_g2 c_5)
  | with_reducible exact hx_a1 (hz_1 hLv nhb nwb nkb f_1_1_0) (Or.inr (i_nle.mp c_5))
  | with_reducible exact pr_1 (hrs_neg c_4 (hz_1 hLv nhb nwb nkb f_1_1_0) hj_6 nr5 nhb c_8)
  | with_reducible exact pr_2 (hrs_neg c_4 (hz_1 hLv nhb nwb nkb f_1_1_0) hj_6 nr5 nhb c_8)
  | with_reducible exact pr_3 (hrs_neg c_4 (hz_1 hLv nhb nwb nkb f_1_1_0) hj_6 nr5 nhb c_8)
  | with_reducible exact (hrs_nega c_4 (hz_1 hLv nhb nwb nkb f_1_1_0) hj_6 nr5 nhb c_8).symm
  | omega
set_option maxHeartbeats 60000 in
theorem lf_X7_hours_18 {nv0 : Int32} {nv1 : Int32} {nv2 : Int32} {nv3 : Int32} {nv5 : Int32} {nhh : Nat} {nww : Nat} {nkk : Nat} {ng1 : Nat → Int32} {ng2 : Nat → Int32} {ng3 : Nat → Int32} {ng4 : Nat → Int32} {ng5 : Nat → Int32} {q : Nat} {az : Nat} {fb : Nat → Option Nat} {ad : Nat → Nat} {V : Nat → Nat → Int32} {G : Nat → Nat → Nat → Int32} {k0 : Int32} (nhb : nhh ≤ 999) (nwb : nww ≤ 6) (nkb : nkk ≤ 6) (hLv : okLv (nrm nv0 nv1 nv2 nv3 nhh nv5 nww nkk ng1 ng2 ng3 ng4 ng5)) (hfb : ∀ i : Nat, i < 24 → fb i = some (ad i)) (hq : q < 24) (haz : az ≤ 24) (f_1_1_0 : 0 < nv0) (c_4 : ¬ (k0 < 1)) (c_5 : ¬ (k0 ≤ 24)) : (nrm nv0 nv1 nv2 nv3 nhh nv5 nww nkk ng1 ng2 ng3 ng4 ng5) = (s_hrs (nrm nv0 nv1 nv2 nv3 nhh nv5 nww nkk ng1 ng2 ng3 ng4 ng5) az (acX q az V G) k0).1 := by
  first
  | with_reducible exact hx_l (hx_g1 c_4)
  | with_reducible exact hx_z (hx_g1 c_4)
  | with_reducible exact hx_c (hx_g1 c_4)
  | with_reducible exact hx_a1 (hz_1 hLv nhb nwb nkb f_1_1_0) (Or.inl c_4)
  | with_reducible exact hx_l (hx_g2 c_5)
  | with_reducible exact hx_z (hx_g2 c_5)
  | with_reducible exact hx_c (hx_g2 c_5)
  | with_reducible exact hx_a1 (hz_1 hLv nhb nwb nkb f_1_1_0) (Or.inr (i_nle.mp c_5))
  | omega
set_option maxHeartbeats 60000 in
theorem lf_X7_hours_19 {nv0 : Int32} {nv1 : Int32} {nv2 : Int32} {nv3 : Int32} {nv5 : Int32} {nhh : Nat} {nww : Nat} {nkk : Nat} {ng1 : Nat → Int32} {ng2 : Nat → Int32} {ng3 : Nat → Int32} {ng4 : Nat → Int32} {ng5 : Nat → Int32} {q : Nat} {az : Nat} {fb : Nat → Option Nat} {ad : Nat → Nat} {V : Nat → Nat → Int32} {G : Nat → Nat → Nat → Int32} {k0 : Int32} (nhb : nhh ≤ 999) (nwb : nww ≤ 6) (nkb : nkk ≤ 6) (hLv : okLv (nrm nv0 nv1 nv2 nv3 nhh nv5 nww nkk ng1 ng2 ng3 ng4 ng5)) (hfb : ∀ i : Nat, i < 24 → fb i = some (ad i)) (hq : q < 24) (haz : az ≤ 24) (f_1_1_0 : 0 < nv0) (c_4 : ¬ (k0 < 1)) (c_5 : ¬ (k0 ≤ 24)) : az = (s_hrs (nrm nv0 nv1 nv2 nv3 nhh nv5 nww nkk ng1 ng2 ng3 ng4 ng5) az (acX q az V G) k0).2.1 := by
  first
  | with_reducible exact hx_l (hx_g1 c_4)
  | with_reducible exact hx_z (hx_g1 c_4)
  | with_reducible exact hx_c (hx_g1 c_4)
  | with_reducible exact hx_a1 (hz_1 hLv nhb nwb nkb f_1_1_0) (Or.inl c_4)
  | with_reducible exact hx_l (hx_g2 c_5)
  | with_reducible exact hx_z (hx_g2 c_5)
  | with_reducible exact hx_c (hx_g2 c_5)
  | with_reducible exact hx_a1 (hz_1 hLv nhb nwb nkb f_1_1_0) (Or.inr (i_nle.mp c_5))
  | omega
set_option maxHeartbeats 60000 in
theorem lf_X7_hours_20 {nv0 : Int32} {nv1 : Int32} {nv2 : Int32} {nv3 : Int32} {nv5 : Int32} {nhh : Nat} {nww : Nat} {nkk : Nat} {ng1 : Nat → Int32} {ng2 : Nat → Int32} {ng3 : Nat → Int32} {ng4 : Nat → Int32} {ng5 : Nat → Int32} {q : Nat} {az : Nat} {fb : Nat → Option Nat} {ad : Nat → Nat} {V : Nat → Nat → Int32} {G : Nat → Nat → Nat → Int32} {k0 : Int32} (nhb : nhh ≤ 999) (nwb : nww ≤ 6) (nkb : nkk ≤ 6) (hLv : okLv (nrm nv0 nv1 nv2 nv3 nhh nv5 nww nkk ng1 ng2 ng3 ng4 ng5)) (hfb : ∀ i : Nat, i < 24 → fb i = some (ad i)) (hq : q < 24) (haz : az ≤ 24) (f_1_1_0 : 0 < nv0) (c_4 : ¬ (k0 < 1)) (c_5 : ¬ (k0 ≤ 24)) : acX q az V G = (s_hrs (nrm nv0 nv1 nv2 nv3 nhh nv5 nww nkk ng1 ng2 ng3 ng4 ng5) az (acX q az V G) k0).2.2 := by
  first
  | with_reducible exact hx_l (hx_g1 c_4)
  | with_reducible exact hx_z (hx_g1 c_4)
  | with_reducible exact hx_c (hx_g1 c_4)
  | with_reducible exact hx_a1 (hz_1 hLv nhb nwb nkb f_1_1_0) (Or.inl c_4)
  | with_reducible exact hx_l (hx_g2 c_5)
  | with_reducible exact hx_z (hx_g2 c_5)
  | with_reducible exact hx_c (hx_g2 c_5)
  | with_reducible exact hx_a1 (hz_1 hLv nhb nwb nkb f_1_1_0) (Or.inr (i_nle.mp c_5))
  | omega
set_option maxHeartbeats 60000 in
theorem lf_X7_hours_21 {nv0 : Int32} {nv1 : Int32} {nv2 : Int32} {nv3 : Int32} {nv5 : Int32} {nhh : Nat} {nww : Nat} {nkk : Nat} {ng1 : Nat → Int32} {ng2 : Nat → Int32} {ng3 : Nat → Int32} {ng4 : Nat → Int32} {ng5 : Nat → Int32} {q : Nat} {az : Nat} {fb : Nat → Option Nat} {ad : Nat → Nat} {k0 : Int32} (nhb : nhh ≤ 999) (nwb : nww ≤ 6) (nkb : nkk ≤ 6) (hLv : okLv (nrm nv0 nv1 nv2 nv3 nhh nv5 nww nkk ng1 ng2 ng3 ng4 ng5)) (hfb : ∀ i : Nat, i < 24 → fb i = some (ad i)) (hq : q < 24) (haz : az ≤ 24) (f_1_1_0 : 0 < nv0) (c_4 : ¬ (k0 < 1)) (c_5 : ¬ (k0 ≤ 24)) : (-1000001) = (a_hrs (nrm nv0 nv1 nv2 nv3 nhh nv5 nww nkk ng1 ng2 ng3 ng4 ng5) k0) := by
  first
  | with_reducible exact hx_l (hx_g1 c_4)
  | with_reducible exact hx_z (hx_g1 c_4)
  | with_reducible exact hx_c (hx_g1 c_4)
  | with_reducible exact hx_a1 (hz_1 hLv nhb nwb nkb f_1_1_0) (Or.inl c_4)
  | with_reducible exact hx_l (hx_g2 c_5)
  | with_reducible exact hx_z (hx_g2 c_5)
  | with_reducible exact hx_c (hx_g2 c_5)
  | with_reducible exact hx_a1 (hz_1 hLv nhb nwb nkb f_1_1_0) (Or.inr (i_nle.mp c_5))
  | omega
set_option maxHeartbeats 4000000 in
set_option maxRecDepth 100000 in
theorem r_X7_hours (l : Launch) (dC : Nat → ClassId) (dI : Nat → Nat → Nat) (cI cZ cL cJ : ClassId) (sz : Nat) (x : Nat) (ro : Nat) (ta : Nat) (no : Nat) (ac : Nat) (im : Nat) (tr : Nat) (pl : Nat) (cs : Nat) (ak : Nat) (xf : Int32) (xg : Int32) (nv0 : Int32) (nv1 : Int32) (nv2 : Int32) (nv3 : Int32) (nv5 : Int32) (nhh : Nat) (nww : Nat) (nkk : Nat) (nb1 : Nat) (nb2 : Nat) (nb3 : Nat) (nb4 : Nat) (nb5 : Nat) (ng1 : Nat → Int32) (ng2 : Nat → Int32) (ng3 : Nat → Int32) (ng4 : Nat → Int32) (ng5 : Nat → Int32) (be : Nat) (q : Nat) (az : Nat) (fb : Nat → Option Nat) (ad : Nat → Nat) (bd : Nat → Nat → Nat) (V : Nat → Nat → Int32) (G : Nat → Nat → Nat → Int32) (k0 : Int32) (nhb : nhh ≤ 999) (nwb : nww ≤ 6) (nkb : nkk ≤ 6) (hLv : okLv (nrm nv0 nv1 nv2 nv3 nhh nv5 nww nkk ng1 ng2 ng3 ng4 ng5)) (hfb : ∀ i : Nat, i < 24 → fb i = some (ad i)) (hok : ∀ i : Nat, i < 24 → okL (V i)) (hq : q < 24) (haz : az ≤ 24) : Met l yX7_hours wsX7_hours ({ frames := 4, cells := 0, slots := 0, locals := 122 }) (va_Pc [.ref x, .int k0] (fun U => U.heap.size = sz ∧ va_P (dC, dI) vwCl (([(xo_7_rrrrrrrrrii x ro ta no ac im tr pl cs ak xf xg), (xo_3_iiiiiiiirrrrr no nv0 nv1 nv2 nv3 (nI nhh) nv5 (nI nww) (nI nkk) nb1 nb2 nb3 nb4 nb5), (xI nb1 cI 6 ng1), (xI nb2 cI 6 ng2), (xI nb3 cI 6 ng3), (xI nb4 cI 6 ng4), (xI nb5 cI 6 ng5), (xo_0_rii ac be (nI q) (nI az)), (xJ be cL 24 fb)] : va_W) ++ lvs cI 24 ad bd V G) U.heap ∧ va_K (dC, dI) vwCl [(cI, .int), (cZ, .boolean), (cL, .object RX3), (cJ, .array .int)] U ∧ va_D (fun _ => True) (([(xo_7_rrrrrrrrrii x ro ta no ac im tr pl cs ak xf xg), (xo_3_iiiiiiiirrrrr no nv0 nv1 nv2 nv3 (nI nhh) nv5 (nI nww) (nI nkk) nb1 nb2 nb3 nb4 nb5), (xI nb1 cI 6 ng1), (xI nb2 cI 6 ng2), (xI nb3 cI 6 ng3), (xI nb4 cI 6 ng4), (xI nb5 cI 6 ng5), (xo_0_rii ac be (nI q) (nI az)), (xJ be cL 24 fb)] : va_W) ++ lvs cI 24 ad bd V G))) (va_Qi (fun r (_ : Unit) => r = (a_hrs (nrm nv0 nv1 nv2 nv3 nhh nv5 nww nkk ng1 ng2 ng3 ng4 ng5) k0)) (fun (_ : Unit) t => ∃ (Vn : Nat → Nat → Int32) (Gn : Nat → Nat → Nat → Int32) (nv0n : Int32) (nv1n : Int32) (nv2n : Int32) (nv3n : Int32) (nv5n : Int32) (ng1n : Nat → Int32) (ng2n : Nat → Int32) (ng3n : Nat → Int32) (ng4n : Nat → Int32) (ng5n : Nat → Int32) (nhn : Nat) (nwn : Nat) (nkn : Nat) (qn : Nat) (azn : Nat), va_P (dC, dI) vwCl (([(xo_7_rrrrrrrrrii x ro ta no ac im tr pl cs ak xf xg), (xo_3_iiiiiiiirrrrr no nv0n nv1n nv2n nv3n (nI nhn) nv5n (nI nwn) (nI nkn) nb1 nb2 nb3 nb4 nb5), (xI nb1 cI 6 ng1n), (xI nb2 cI 6 ng2n), (xI nb3 cI 6 ng3n), (xI nb4 cI 6 ng4n), (xI nb5 cI 6 ng5n), (xo_0_rii ac be (nI qn) (nI azn)), (xJ be cL 24 fb)] : va_W) ++ lvs cI 24 ad bd Vn Gn) t.heap ∧ va_D (va_A (([(xo_7_rrrrrrrrrii x ro ta no ac im tr pl cs ak xf xg), (xo_3_iiiiiiiirrrrr no nv0 nv1 nv2 nv3 (nI nhh) nv5 (nI nww) (nI nkk) nb1 nb2 nb3 nb4 nb5), (xI nb1 cI 6 ng1), (xI nb2 cI 6 ng2), (xI nb3 cI 6 ng3), (xI nb4 cI 6 ng4), (xI nb5 cI 6 ng5), (xo_0_rii ac be (nI q) (nI az)), (xJ be cL 24 fb)] : va_W) ++ lvs cI 24 ad bd V G) sz) (([(xo_7_rrrrrrrrrii x ro ta no ac im tr pl cs ak xf xg), (xo_3_iiiiiiiirrrrr no nv0n nv1n nv2n nv3n (nI nhn) nv5n (nI nwn) (nI nkn) nb1 nb2 nb3 nb4 nb5), (xI nb1 cI 6 ng1n), (xI nb2 cI 6 ng2n), (xI nb3 cI 6 ng3n), (xI nb4 cI 6 ng4n), (xI nb5 cI 6 ng5n), (xo_0_rii ac be (nI qn) (nI azn)), (xJ be cL 24 fb)] : va_W) ++ lvs cI 24 ad bd Vn Gn) ∧ (∀ i : Nat, i < 24 → okL (Vn i)) ∧ qn < 24 ∧ azn ≤ 24 ∧ nhn ≤ 999 ∧ nwn ≤ 6 ∧ nkn ≤ 6 ∧ (nrm nv0n nv1n nv2n nv3n nhn nv5n nwn nkn ng1n ng2n ng3n ng4n ng5n) = (s_hrs (nrm nv0 nv1 nv2 nv3 nhh nv5 nww nkk ng1 ng2 ng3 ng4 ng5) az (acX q az V G) k0).1 ∧ azn = (s_hrs (nrm nv0 nv1 nv2 nv3 nhh nv5 nww nkk ng1 ng2 ng3 ng4 ng5) az (acX q az V G) k0).2.1 ∧ acX qn azn Vn Gn = (s_hrs (nrm nv0 nv1 nv2 nv3 nhh nv5 nww nkk ng1 ng2 ng3 ng4 ng5) az (acX q az V G) k0).2.2) (va_A (([(xo_7_rrrrrrrrrii x ro ta no ac im tr pl cs ak xf xg), (xo_3_iiiiiiiirrrrr no nv0 nv1 nv2 nv3 (nI nhh) nv5 (nI nww) (nI nkk) nb1 nb2 nb3 nb4 nb5), (xI nb1 cI 6 ng1), (xI nb2 cI 6 ng2), (xI nb3 cI 6 ng3), (xI nb4 cI 6 ng4), (xI nb5 cI 6 ng5), (xo_0_rii ac be (nI q) (nI az)), (xJ be cL 24 fb)] : va_W) ++ lvs cI 24 ad bd V G) sz)) 0 0 (va_A (([(xo_7_rrrrrrrrrii x ro ta no ac im tr pl cs ak xf xg), (xo_3_iiiiiiiirrrrr no nv0 nv1 nv2 nv3 (nI nhh) nv5 (nI nww) (nI nkk) nb1 nb2 nb3 nb4 nb5), (xI nb1 cI 6 ng1), (xI nb2 cI 6 ng2), (xI nb3 cI 6 ng3), (xI nb4 cI 6 ng4), (xI nb5 cI 6 ng5), (xo_0_rii ac be (nI q) (nI az)), (xJ be cL 24 fb)] : va_W) ++ lvs cI 24 ad bd V G) sz) := by
  refine Met.ofW (cc := cX7_hours) (maxL := 3) (ret := (some .int)) (by decide) rfl ?_
  intro p e s m args below meth c s₁ B hml hv
  obtain ⟨rfl, hsz, hP, hK, hD0⟩ := hv
  have hx := B.exec
  have hb := B.bytes
  have hr := B.returns
  have hts := atoms_spec (ws := wsX7_hours) B.pre
  have hown : s.vm.findClass RX7 = some m.cls := findClass_of_methodNamed B.named
  have hlocks := B.notSynchronized
  subst hsz
  have hD := hD0.self (sz := s.heap.size)
  generalize hAe : va_A (([(xo_7_rrrrrrrrrii x ro ta no ac im tr pl cs ak xf xg), (xo_3_iiiiiiiirrrrr no nv0 nv1 nv2 nv3 (nI nhh) nv5 (nI nww) (nI nkk) nb1 nb2 nb3 nb4 nb5), (xI nb1 cI 6 ng1), (xI nb2 cI 6 ng2), (xI nb3 cI 6 ng3), (xI nb4 cI 6 ng4), (xI nb5 cI 6 ng5), (xo_0_rii ac be (nI q) (nI az)), (xJ be cL 24 fb)] : va_W) ++ lvs cI 24 ad bd V G) s.heap.size = A at hD ⊢
  have hA : ∀ q : Nat, s.heap.size ≤ q → A q := fun q h => by rw [← hAe]; exact Or.inr h
  have hS : va_S A s.heap s.heap [] := va_S.rf
  have hP : va_P (dC, dI) vwCl (([(xo_7_rrrrrrrrrii x ro ta no ac im tr pl cs ak xf xg), (xo_3_iiiiiiiirrrrr no nv0 nv1 nv2 nv3 (nI nhh) nv5 (nI nww) (nI nkk) nb1 nb2 nb3 nb4 nb5), (xI nb1 cI 6 ng1), (xI nb2 cI 6 ng2), (xI nb3 cI 6 ng3), (xI nb4 cI 6 ng4), (xI nb5 cI 6 ng5), (xo_0_rii ac be (nI q) (nI az)), (xJ be cL 24 fb)] : va_W) ++ lvs cI 24 ad bd V G) s.heap := hP
  have hl := lv_entry ([.ref x, .int k0]) (n := 3) (Nat.le_of_ble_eq_true rfl)
  rw [lg_entry_eq]
  generalize (lg_sl ([.ref x, .int k0]) ++ List.replicate (3 - (lg_sl ([.ref x, .int k0])).length) Slot.unset).toArray = ls at hl ⊢
  have hl : lv_has ls 3 [(0, .ref x), (1, .int k0)] := hl
  refine lv_aload_n hx hb dX7_hours_0 rfl (lv_at hl 0 rfl) ?_
  refine va_get (D := (dC, dI)) (ci := 7) (v := .ref no) (C := RX7) (T := TX7) (N := 11) hx hb hts i_X7_hours_X7 hown hK hP 0 rfl rfl 2 (by decide) (hts _ mx_X7_hours_1) (fun _ h9 => h9) rfl dX7_hours_1 ?_
  have hPc_1 := hP.sub (ws' := [(xo_3_iiiiiiiirrrrr no nv0 nv1 nv2 nv3 (nI nhh) nv5 (nI nww) (nI nkk) nb1 nb2 nb3 nb4 nb5), (xI nb1 cI 6 ng1), (xI nb2 cI 6 ng2), (xI nb3 cI 6 ng3), (xI nb4 cI 6 ng4), (xI nb5 cI 6 ng5)]) [1, 2, 3, 4, 5, 6] rfl
  refine vp_callSi (W.runV (As := []) (rest := []) ⟨hx, hb, hml, hown, hts⟩ (r_X3_isTold l dC dI cI cZ cL cJ no nv0 nv1 nv2 nv3 nv5 nhh nww nkk nb1 nb2 nb3 nb4 nb5 ng1 ng2 ng3 ng4 ng5 (by omega) (by omega) (by omega)) (cwV 0 hts gX7_hours_X3_isTold rfl rfl rfl (by decide +kernel) ⟨Nat.le_of_ble_eq_true rfl, Nat.le_of_ble_eq_true rfl⟩) (pvP 3 1 hK hP rfl rfl hPc_1) rfl rfl hl.1 rfl (lv_room (Nat.le_of_ble_eq_true rfl)) dX7_hours_4 ⟨Nat.le_of_ble_eq_true rfl, Nat.le_of_ble_eq_true rfl⟩) (fun r_1 h_1 => ?_)
  rcases h_1 with ⟨h_1, f_1_0_0⟩ | ⟨h_1, f_1_1_0⟩
  · subst h_1
    refine lv_if_ne (tgt := 13) hx hb dX7_hours_7 (by decide) (fun c_ => absurd (by decide) c_) (fun _ => ?_)
    refine lv_ldc (own := RX7) (v := (-1000002)) hx hb hown (hts _ mx_X7_hours_2) dX7_hours_10 ?_
    have hX9 := cut2P (cx := [(xo_7_rrrrrrrrrii x ro ta no ac im tr pl cs ak xf xg), (xo_3_iiiiiiiirrrrr no nv0 nv1 nv2 nv3 (nI nhh) nv5 (nI nww) (nI nkk) nb1 nb2 nb3 nb4 nb5), (xI nb1 cI 6 ng1), (xI nb2 cI 6 ng2), (xI nb3 cI 6 ng3), (xI nb4 cI 6 ng4), (xI nb5 cI 6 ng5), (xo_0_rii ac be (nI q) (nI az)), (xJ be cL 24 fb)]) hP hD [0, 1, 2, 3, 4, 5, 6, 7, 8] (by decide +kernel) rfl
    exact W.iret (v := (-1000002)) hx hb hr (fun t ht hW => ⟨⟨(-1000002), (), rfl, (lf_X7_hours_4 nhb nwb nkb hLv hfb hq haz f_1_0_0), ⟨V, G, nv0, nv1, nv2, nv3, nv5, ng1, ng2, ng3, ng4, ng5, nhh, nww, nkk, q, az, va_Ht ht hX9.1, hX9.2, hok, (by omega), (by omega), (by omega), (by omega), (by omega), (lf_X7_hours_1 nhb nwb nkb hLv hfb hq haz f_1_0_0), (lf_X7_hours_2 nhb nwb nkb hLv hfb hq haz f_1_0_0), (lf_X7_hours_3 nhb nwb nkb hLv hfb hq haz f_1_0_0)⟩⟩, hS.F ht⟩) hS.2.2 dX7_hours_12
  · subst h_1
    refine lv_if_ne (tgt := 13) hx hb dX7_hours_7 (by decide) (fun _ => ?_) (fun c_ => absurd c_ (by decide))
    refine lv_iload_n hx hb dX7_hours_13 rfl (lv_at hl 1 rfl) ?_
    refine lv_iconst (v := 1) hx hb dX7_hours_14 (by decide) ?_
    refine lv_icmp_lt (tgt := 24) hx hb dX7_hours_15 (by decide) (fun c_4 => ?_) (fun c_4 => ?_)
    · skip
      refine lv_ldc (own := RX7) (v := (-1000001)) hx hb hown (hts _ mx_X7_hours_3) dX7_hours_24 ?_
      have hX9 := cut2P (cx := [(xo_7_rrrrrrrrrii x ro ta no ac im tr pl cs ak xf xg), (xo_3_iiiiiiiirrrrr no nv0 nv1 nv2 nv3 (nI nhh) nv5 (nI nww) (nI nkk) nb1 nb2 nb3 nb4 nb5), (xI nb1 cI 6 ng1), (xI nb2 cI 6 ng2), (xI nb3 cI 6 ng3), (xI nb4 cI 6 ng4), (xI nb5 cI 6 ng5), (xo_0_rii ac be (nI q) (nI az)), (xJ be cL 24 fb)]) hP hD [0, 1, 2, 3, 4, 5, 6, 7, 8] (by decide +kernel) rfl
      exact W.iret (v := (-1000001)) hx hb hr (fun t ht hW => ⟨⟨(-1000001), (), rfl, (lf_X7_hours_8 nhb nwb nkb hLv hfb hq haz f_1_1_0 c_4), ⟨V, G, nv0, nv1, nv2, nv3, nv5, ng1, ng2, ng3, ng4, ng5, nhh, nww, nkk, q, az, va_Ht ht hX9.1, hX9.2, hok, (by omega), (by omega), (by omega), (by omega), (by omega), (lf_X7_hours_5 nhb nwb nkb hLv hfb hq haz f_1_1_0 c_4), (lf_X7_hours_6 nhb nwb nkb hLv hfb hq haz f_1_1_0 c_4), (lf_X7_hours_7 nhb nwb nkb hLv hfb hq haz f_1_1_0 c_4)⟩⟩, hS.F ht⟩) hS.2.2 dX7_hours_26
    · skip
      refine lv_iload_n hx hb dX7_hours_18 rfl (lv_at hl 1 rfl) ?_
      refine lv_bipush (v := 24) hx hb dX7_hours_19 (by decide) ?_
      refine lv_icmp_le (tgt := 27) hx hb dX7_hours_21 (by decide) (fun c_5 => ?_) (fun c_5 => ?_)
      · skip
        obtain ⟨j_6, hj_6, rfl⟩ := nat_le (n := 24) (nn_1 c_4) rfl c_5 (by decide)
        refine lv_aload_n hx hb dX7_hours_27 rfl (lv_at hl 0 rfl) ?_
        refine va_get (D := (dC, dI)) (ci := 7) (v := .ref no) (C := RX7) (T := TX7) (N := 11) hx hb hts i_X7_hours_X7 hown hK hP 0 rfl rfl 2 (by decide) (hts _ mx_X7_hours_1) (fun _ h9 => h9) rfl dX7_hours_28 ?_
        refine va_get (D := (dC, dI)) (ci := 3) (v := .int (nI nhh)) (C := RX3) (T := TX3) (N := 13) hx hb hts i_X7_hours_X3 hown hK hP 1 rfl rfl 4 (by decide) (hts _ mx_X7_hours_4) (fun _ h9 => h9) rfl dX7_hours_31 ?_
        refine lv_iload_n hx hb dX7_hours_34 rfl (lv_at hl 1 rfl) ?_
        refine lv_iadd hx hb dX7_hours_35 ?_
        refine lv_topi (fun v_7 e_7 => ?_)
        obtain rfl : v_7 = (nI (nhh + j_6)) := (e_7).trans (nI_add nhh j_6)
        refine lv_sipush (v := 999) hx hb dX7_hours_36 (by decide) ?_
        refine lv_icmp_le (tgt := 45) hx hb dX7_hours_39 (by decide) (fun c_8 => ?_) (fun c_8 => ?_)
        · have c_8 : (nhh + j_6) ≤ 999 := (nI_leI (a := (nhh + j_6)) (b := 999) (by omega) (by omega)).mp c_8
          refine lv_iconst (v := 0) hx hb dX7_hours_45 (by decide) ?_
          refine lv_istore_n (lv' := [(2, .int 0), (0, .ref x), (1, .int (nI j_6))]) hx hb dX7_hours_46 rfl hl (by decide) rfl (fun ls hl => ?_)
          refine lp_go (σ := (Int32) × (Nat → Int32) × (Nat → Int32) × (Nat → Int32) × (Nat) × (Nat) × (Nat → Nat → Int32) × (Nat → Nat → Nat → Int32)) (fun ii (st : (Int32) × (Nat → Int32) × (Nat → Int32) × (Nat → Int32) × (Nat) × (Nat) × (Nat → Nat → Int32) × (Nat → Nat → Nat → Int32)) H locs ls => match st with | (w_14, w_15, w_16, w_17, w_18, w_19, w_20, w_21) => lv_has ls 3 [(2, .int (nI ii)), (0, .ref x), (1, .int (nI j_6))] ∧ va_P (dC, dI) vwCl (([(xo_7_rrrrrrrrrii x ro ta no ac im tr pl cs ak xf xg), (xo_3_iiiiiiiirrrrr no nv0 nv1 nv2 nv3 (nI (nhh + ii)) w_14 (nI nww) (nI nkk) nb1 nb2 nb3 nb4 nb5), (xI nb1 cI 6 ng1), (xI nb2 cI 6 ng2), (xI nb3 cI 6 w_15), (xI nb4 cI 6 w_16), (xI nb5 cI 6 w_17), (xo_0_rii ac be (nI w_18) (nI w_19)), (xJ be cL 24 fb)] : va_W) ++ lvs cI 24 ad bd w_20 w_21) H ∧ va_D A (([(xo_7_rrrrrrrrrii x ro ta no ac im tr pl cs ak xf xg), (xo_3_iiiiiiiirrrrr no nv0 nv1 nv2 nv3 (nI (nhh + ii)) w_14 (nI nww) (nI nkk) nb1 nb2 nb3 nb4 nb5), (xI nb1 cI 6 ng1), (xI nb2 cI 6 ng2), (xI nb3 cI 6 w_15), (xI nb4 cI 6 w_16), (xI nb5 cI 6 w_17), (xo_0_rii ac be (nI w_18) (nI w_19)), (xJ be cL 24 fb)] : va_W) ++ lvs cI 24 ad bd w_20 w_21) ∧ va_S A s.heap H locs ∧ (hrI ii (nrm nv0 nv1 nv2 nv3 nhh nv5 nww nkk ng1 ng2 ng3 ng4 ng5) az (acX q az V G) = ((nrm nv0 nv1 nv2 nv3 (nhh + ii) w_14 nww nkk ng1 ng2 w_15 w_16 w_17), w_19, acX w_18 w_19 w_20 w_21)) ∧ (∀ i : Nat, i < 24 → okL (w_20 i)) ∧ w_18 ≤ 23 ∧ w_19 ≤ 24) j_6 ?_ ?_ 0 (by omega) (nv5, ng3, ng4, ng5, q, az, V, G) ⟨lv_sub hl [0, 1, 2] rfl, hP.part (cx := [(xo_7_rrrrrrrrrii x ro ta no ac im tr pl cs ak xf xg), (xo_3_iiiiiiiirrrrr no nv0 nv1 nv2 nv3 (nI nhh) nv5 (nI nww) (nI nkk) nb1 nb2 nb3 nb4 nb5), (xI nb1 cI 6 ng1), (xI nb2 cI 6 ng2), (xI nb3 cI 6 ng3), (xI nb4 cI 6 ng4), (xI nb5 cI 6 ng5), (xo_0_rii ac be (nI q) (nI az)), (xJ be cL 24 fb)]) [0, 1, 2, 3, 4, 5, 6, 7, 8] rfl, hD.part (cx := [(xo_7_rrrrrrrrrii x ro ta no ac im tr pl cs ak xf xg), (xo_3_iiiiiiiirrrrr no nv0 nv1 nv2 nv3 (nI nhh) nv5 (nI nww) (nI nkk) nb1 nb2 nb3 nb4 nb5), (xI nb1 cI 6 ng1), (xI nb2 cI 6 ng2), (xI nb3 cI 6 ng3), (xI nb4 cI 6 ng4), (xI nb5 cI 6 ng5), (xo_0_rii ac be (nI q) (nI az)), (xJ be cL 24 fb)]) [0, 1, 2, 3, 4, 5, 6, 7, 8] (by decide +kernel) rfl, hS, rfl, hok, (by omega), (by omega)⟩
          · rintro ii ⟨w_14, w_15, w_16, w_17, w_18, w_19, w_20, w_21⟩ H locs ls hii ⟨hl, hP, hD, hS, haf_0, hok, hnb_w_18, hnb_w_19⟩ ih
            refine lv_iload_n hx hb dX7_hours_47 rfl (lv_at hl 0 rfl) ?_
            refine lv_iload_n hx hb dX7_hours_48 rfl (lv_at hl 2 rfl) ?_
            refine lv_icmp_ge (tgt := 76) hx hb dX7_hours_49 (by decide) (fun c_ => absurd c_ (fun q_ => absurd ((nI_leI (a := j_6) (b := ii) (by omega) (by omega)).mp q_) (by omega))) (fun _ => ?_)
            refine lv_aload_n hx hb dX7_hours_52 rfl (lv_at hl 1 rfl) ?_
            refine va_get (D := (dC, dI)) (ci := 7) (v := .ref ac) (C := RX7) (T := TX7) (N := 11) hx hb hts i_X7_hours_X7 hown hK hP 0 rfl rfl 3 (by decide) (hts _ mx_X7_hours_6) (fun _ h9 => h9) rfl dX7_hours_53 ?_
            refine lv_aload_n hx hb dX7_hours_56 rfl (lv_at hl 1 rfl) ?_
            refine va_get (D := (dC, dI)) (ci := 7) (v := .ref no) (C := RX7) (T := TX7) (N := 11) hx hb hts i_X7_hours_X7 hown hK hP 0 rfl rfl 2 (by decide) (hts _ mx_X7_hours_1) (fun _ h9 => h9) rfl dX7_hours_57 ?_
            have hc_34 := cutP (cx := [(xo_0_rii ac be (nI w_18) (nI w_19)), (xJ be cL 24 fb), (xo_3_iiiiiiiirrrrr no nv0 nv1 nv2 nv3 (nI (nhh + ii)) w_14 (nI nww) (nI nkk) nb1 nb2 nb3 nb4 nb5), (xI nb1 cI 6 ng1), (xI nb2 cI 6 ng2), (xI nb3 cI 6 w_15), (xI nb4 cI 6 w_16), (xI nb5 cI 6 w_17)]) hP hD hS hA [7, 8, 1, 2, 3, 4, 5, 6] (by decide +kernel) rfl
            refine va_callv (va_runV (As := [.ref no]) (rest := []) ⟨hx, hb, hml, hown, hts⟩ (r_X0_keep l dC dI cI cZ cL cJ H.size ac be w_18 w_19 fb ad bd w_20 w_21 no nv0 nv1 nv2 nv3 w_14 (nhh + ii) nww nkk nb1 nb2 nb3 nb4 nb5 ng1 ng2 w_15 w_16 w_17 (hfb) (hok) (by omega) (by omega) (by omega) (by omega) (by omega)) (cwV 1 hts gX7_hours_X0_keep rfl rfl rfl (by decide +kernel) ⟨Nat.le_of_ble_eq_true rfl, Nat.le_of_ble_eq_true rfl⟩) (pvW 0 7 hK hP rfl rfl hc_34) rfl rfl hl.1 rfl (lv_room (Nat.le_of_ble_eq_true rfl)) dX7_hours_60 ⟨Nat.le_of_ble_eq_true rfl, Nat.le_of_ble_eq_true rfl⟩) hS (fun q _ h => hc_34.2.2 q h) hc_34.2.2 (fun u_34 t_34 H1 locs ht hvm h_34 hB hz1 hk1 hS => ?_)
            refine xl_4_9 hB (fun Vn_34 Gn_34 qn_34 zn_34 hP1 hD1 hF_34_0 hF_34_1 hF_34_2 hF_34_3 hF_34_4 hF_34_5 hF_34_6 => ?_)
            clear hB
            rw [ht] at hP1
            obtain ⟨hP, hD⟩ := va_joinP (wr := [(xo_7_rrrrrrrrrii x ro ta no ac im tr pl cs ak xf xg)]) (rx := [(xo_0_rii ac be (nI qn_34) (nI zn_34)), (xJ be cL 24 fb), (xo_3_iiiiiiiirrrrr no nv0 nv1 nv2 nv3 (nI (nhh + ii)) w_14 (nI nww) (nI nkk) nb1 nb2 nb3 nb4 nb5), (xI nb1 cI 6 ng1), (xI nb2 cI 6 ng2), (xI nb3 cI 6 w_15), (xI nb4 cI 6 w_16), (xI nb5 cI 6 w_17)]) (pl1 := lvs cI 24 ad bd Vn_34 Gn_34) hP hD [7, 8, 1, 2, 3, 4, 5, 6] [0] rfl rfl (by decide +kernel) (by decide +kernel) hk1 hc_34.2.2 hP1 hD1
            generalize H1 = H at hP hS ⊢
            have hP : va_P (dC, dI) vwCl (([(xo_7_rrrrrrrrrii x ro ta no ac im tr pl cs ak xf xg), (xo_0_rii ac be (nI qn_34) (nI zn_34)), (xJ be cL 24 fb), (xo_3_iiiiiiiirrrrr no nv0 nv1 nv2 nv3 (nI (nhh + ii)) w_14 (nI nww) (nI nkk) nb1 nb2 nb3 nb4 nb5), (xI nb1 cI 6 ng1), (xI nb2 cI 6 ng2), (xI nb3 cI 6 w_15), (xI nb4 cI 6 w_16), (xI nb5 cI 6 w_17)] : va_W) ++ lvs cI 24 ad bd Vn_34 Gn_34) H := hP
            have hD := dto hP hD
            refine lv_aload_n hx hb dX7_hours_63 rfl (lv_at hl 1 rfl) ?_
            refine va_get (D := (dC, dI)) (ci := 7) (v := .ref no) (C := RX7) (T := TX7) (N := 11) hx hb hts i_X7_hours_X7 hown hK hP 0 rfl rfl 2 (by decide) (hts _ mx_X7_hours_1) (fun _ h9 => h9) rfl dX7_hours_64 ?_
            have hc_35 := cutX (wc := [(xo_3_iiiiiiiirrrrr no nv0 nv1 nv2 nv3 (nI (nhh + ii)) w_14 (nI nww) (nI nkk) nb1 nb2 nb3 nb4 nb5), (xI nb1 cI 6 ng1), (xI nb2 cI 6 ng2), (xI nb3 cI 6 w_15), (xI nb4 cI 6 w_16), (xI nb5 cI 6 w_17)]) hP hD hS hA [3, 4, 5, 6, 7, 8] (by decide +kernel) rfl
            refine va_callv (va_runV (As := []) (rest := []) ⟨hx, hb, hml, hown, hts⟩ (r_X3_pass l dC dI cI cZ cL cJ H.size no nv0 nv1 nv2 nv3 w_14 (nhh + ii) nww nkk nb1 nb2 nb3 nb4 nb5 ng1 ng2 w_15 w_16 w_17 (by omega) (by omega) (by omega)) (cwV 0 hts gX7_hours_X3_pass rfl rfl rfl (by decide +kernel) ⟨Nat.le_of_ble_eq_true rfl, Nat.le_of_ble_eq_true rfl⟩) (pvW 3 3 hK hP rfl rfl hc_35) rfl rfl hl.1 rfl (lv_room (Nat.le_of_ble_eq_true rfl)) dX7_hours_67 ⟨Nat.le_of_ble_eq_true rfl, Nat.le_of_ble_eq_true rfl⟩) hS (fun q _ h => hc_35.2.2 q h) hc_35.2.2 (fun u_35 t_35 H1 locs ht hvm h_35 hB hz1 hk1 hS => ?_)
            refine xl_4_3 hB (fun v5n_35 g3n_35 g4n_35 g5n_35 hP1 hD1 hF_35_0 => ?_)
            clear hB
            rw [ht] at hP1
            obtain ⟨hP, hD⟩ := va_joinQ (wr := [(xo_7_rrrrrrrrrii x ro ta no ac im tr pl cs ak xf xg), (xo_0_rii ac be (nI qn_34) (nI zn_34)), (xJ be cL 24 fb)]) (w1 := [(xo_3_iiiiiiiirrrrr no nv0 nv1 nv2 nv3 (nI ((nhh + ii) + 1)) v5n_35 (nI nww) (nI nkk) nb1 nb2 nb3 nb4 nb5), (xI nb1 cI 6 ng1), (xI nb2 cI 6 ng2), (xI nb3 cI 6 g3n_35), (xI nb4 cI 6 g4n_35), (xI nb5 cI 6 g5n_35)]) hP hD [3, 4, 5, 6, 7, 8] [0, 1, 2] rfl rfl (by decide +kernel) (by decide +kernel) hk1 hc_35.2.2 hP1 hD1
            generalize H1 = H at hP hS ⊢
            have hP : va_P (dC, dI) vwCl (([(xo_7_rrrrrrrrrii x ro ta no ac im tr pl cs ak xf xg), (xo_0_rii ac be (nI qn_34) (nI zn_34)), (xJ be cL 24 fb), (xo_3_iiiiiiiirrrrr no nv0 nv1 nv2 nv3 (nI ((nhh + ii) + 1)) v5n_35 (nI nww) (nI nkk) nb1 nb2 nb3 nb4 nb5), (xI nb1 cI 6 ng1), (xI nb2 cI 6 ng2), (xI nb3 cI 6 g3n_35), (xI nb4 cI 6 g4n_35), (xI nb5 cI 6 g5n_35)] : va_W) ++ lvs cI 24 ad bd Vn_34 Gn_34) H := hP
            have hD := dto hP hD
            refine lv_iinc (v := (nI (ii + 1))) (lv' := [(2, .int (nI (ii + 1))), (0, .ref x), (1, .int (nI j_6))]) hx hb dX7_hours_70 hl (k := 0) rfl (nI_add ii 1) (by decide) rfl (fun ls hl => ?_)
            refine lv_goto (tgt := 47) hx hb dX7_hours_73 (by decide) ?_
            exact ih (v5n_35, g3n_35, g4n_35, g5n_35, qn_34, zn_34, Vn_34, Gn_34) _ _ _ ⟨lv_sub hl [0, 1, 2] rfl, hP.part (cx := [(xo_7_rrrrrrrrrii x ro ta no ac im tr pl cs ak xf xg), (xo_3_iiiiiiiirrrrr no nv0 nv1 nv2 nv3 (nI ((nhh + ii) + 1)) v5n_35 (nI nww) (nI nkk) nb1 nb2 nb3 nb4 nb5), (xI nb1 cI 6 ng1), (xI nb2 cI 6 ng2), (xI nb3 cI 6 g3n_35), (xI nb4 cI 6 g4n_35), (xI nb5 cI 6 g5n_35), (xo_0_rii ac be (nI qn_34) (nI zn_34)), (xJ be cL 24 fb)]) [0, 3, 4, 5, 6, 7, 8, 1, 2] rfl, hD.part (cx := [(xo_7_rrrrrrrrrii x ro ta no ac im tr pl cs ak xf xg), (xo_3_iiiiiiiirrrrr no nv0 nv1 nv2 nv3 (nI ((nhh + ii) + 1)) v5n_35 (nI nww) (nI nkk) nb1 nb2 nb3 nb4 nb5), (xI nb1 cI 6 ng1), (xI nb2 cI 6 ng2), (xI nb3 cI 6 g3n_35), (xI nb4 cI 6 g4n_35), (xI nb5 cI 6 g5n_35), (xo_0_rii ac be (nI qn_34) (nI zn_34)), (xJ be cL 24 fb)]) [0, 3, 4, 5, 6, 7, 8, 1, 2] (by decide +kernel) rfl, hS, (lf_X7_hours_9 nhb nwb nkb hLv hfb hq haz f_1_1_0 c_4 c_5 hj_6 c_8 hii haf_0 hnb_w_18 hnb_w_19 hF_34_0 hF_34_1 hF_34_2 hF_34_3 hF_34_4 hF_34_5 hF_34_6 hF_35_0), hF_34_0, (by omega), (by omega)⟩
          · rintro ⟨w_14, w_15, w_16, w_17, w_18, w_19, w_20, w_21⟩ H locs ls ⟨hl, hP, hD, hS, haf_0, hok, hnb_w_18, hnb_w_19⟩
            refine lv_iload_n hx hb dX7_hours_47 rfl (lv_at hl 0 rfl) ?_
            refine lv_iload_n hx hb dX7_hours_48 rfl (lv_at hl 2 rfl) ?_
            refine lv_icmp_ge (tgt := 76) hx hb dX7_hours_49 (by decide) (fun _ => ?_) (fun c_ => absurd ((nI_leI (a := j_6) (b := j_6) (by omega) (by omega)).mpr (by omega)) c_)
            refine lv_aload_n hx hb dX7_hours_76 rfl (lv_at hl 1 rfl) ?_
            refine va_get (D := (dC, dI)) (ci := 7) (v := .ref no) (C := RX7) (T := TX7) (N := 11) hx hb hts i_X7_hours_X7 hown hK hP 0 rfl rfl 2 (by decide) (hts _ mx_X7_hours_1) (fun _ h9 => h9) rfl dX7_hours_77 ?_
            refine va_get (D := (dC, dI)) (ci := 3) (v := .int w_14) (C := RX3) (T := TX3) (N := 13) hx hb hts i_X7_hours_X3 hown hK hP 1 rfl rfl 5 (by decide) (hts _ mx_X7_hours_7) (fun _ h9 => h9) rfl dX7_hours_80 ?_
            have hX9 := cut2P (cx := [(xo_7_rrrrrrrrrii x ro ta no ac im tr pl cs ak xf xg), (xo_3_iiiiiiiirrrrr no nv0 nv1 nv2 nv3 (nI (nhh + j_6)) w_14 (nI nww) (nI nkk) nb1 nb2 nb3 nb4 nb5), (xI nb1 cI 6 ng1), (xI nb2 cI 6 ng2), (xI nb3 cI 6 w_15), (xI nb4 cI 6 w_16), (xI nb5 cI 6 w_17), (xo_0_rii ac be (nI w_18) (nI w_19)), (xJ be cL 24 fb)]) hP hD [0, 1, 2, 3, 4, 5, 6, 7, 8] (by decide +kernel) rfl
            exact W.iret (v := w_14) hx hb hr (fun t ht hW => ⟨⟨w_14, (), rfl, (lf_X7_hours_13 nhb nwb nkb hLv hfb hq haz f_1_1_0 c_4 c_5 hj_6 c_8 haf_0 hnb_w_18 hnb_w_19), ⟨w_20, w_21, nv0, nv1, nv2, nv3, w_14, ng1, ng2, w_15, w_16, w_17, (nhh + j_6), nww, nkk, w_18, w_19, va_Ht ht hX9.1, hX9.2, hok, (by omega), (by omega), (by omega), (by omega), (by omega), (lf_X7_hours_10 nhb nwb nkb hLv hfb hq haz f_1_1_0 c_4 c_5 hj_6 c_8 haf_0 hnb_w_18 hnb_w_19), (lf_X7_hours_11 nhb nwb nkb hLv hfb hq haz f_1_1_0 c_4 c_5 hj_6 c_8 haf_0 hnb_w_18 hnb_w_19), (lf_X7_hours_12 nhb nwb nkb hLv hfb hq haz f_1_1_0 c_4 c_5 hj_6 c_8 haf_0 hnb_w_18 hnb_w_19)⟩⟩, hS.F ht⟩) hS.2.2 dX7_hours_83
        · have c_8 : ¬ ((nhh + j_6) ≤ 999) := fun q_ => c_8 ((nI_leI (a := (nhh + j_6)) (b := 999) (by omega) (by omega)).mpr q_)
          refine lv_ldc (own := RX7) (v := (-1000003)) hx hb hown (hts _ mx_X7_hours_5) dX7_hours_42 ?_
          have hX9 := cut2P (cx := [(xo_7_rrrrrrrrrii x ro ta no ac im tr pl cs ak xf xg), (xo_3_iiiiiiiirrrrr no nv0 nv1 nv2 nv3 (nI nhh) nv5 (nI nww) (nI nkk) nb1 nb2 nb3 nb4 nb5), (xI nb1 cI 6 ng1), (xI nb2 cI 6 ng2), (xI nb3 cI 6 ng3), (xI nb4 cI 6 ng4), (xI nb5 cI 6 ng5), (xo_0_rii ac be (nI q) (nI az)), (xJ be cL 24 fb)]) hP hD [0, 1, 2, 3, 4, 5, 6, 7, 8] (by decide +kernel) rfl
          exact W.iret (v := (-1000003)) hx hb hr (fun t ht hW => ⟨⟨(-1000003), (), rfl, (lf_X7_hours_17 nhb nwb nkb hLv hfb hq haz f_1_1_0 c_4 c_5 hj_6 c_8), ⟨V, G, nv0, nv1, nv2, nv3, nv5, ng1, ng2, ng3, ng4, ng5, nhh, nww, nkk, q, az, va_Ht ht hX9.1, hX9.2, hok, (by omega), (by omega), (by omega), (by omega), (by omega), (lf_X7_hours_14 nhb nwb nkb hLv hfb hq haz f_1_1_0 c_4 c_5 hj_6 c_8), (lf_X7_hours_15 nhb nwb nkb hLv hfb hq haz f_1_1_0 c_4 c_5 hj_6 c_8), (lf_X7_hours_16 nhb nwb nkb hLv hfb hq haz f_1_1_0 c_4 c_5 hj_6 c_8)⟩⟩, hS.F ht⟩) hS.2.2 dX7_hours_44
      · skip
        refine lv_ldc (own := RX7) (v := (-1000001)) hx hb hown (hts _ mx_X7_hours_3) dX7_hours_24 ?_
        have hX9 := cut2P (cx := [(xo_7_rrrrrrrrrii x ro ta no ac im tr pl cs ak xf xg), (xo_3_iiiiiiiirrrrr no nv0 nv1 nv2 nv3 (nI nhh) nv5 (nI nww) (nI nkk) nb1 nb2 nb3 nb4 nb5), (xI nb1 cI 6 ng1), (xI nb2 cI 6 ng2), (xI nb3 cI 6 ng3), (xI nb4 cI 6 ng4), (xI nb5 cI 6 ng5), (xo_0_rii ac be (nI q) (nI az)), (xJ be cL 24 fb)]) hP hD [0, 1, 2, 3, 4, 5, 6, 7, 8] (by decide +kernel) rfl
        exact W.iret (v := (-1000001)) hx hb hr (fun t ht hW => ⟨⟨(-1000001), (), rfl, (lf_X7_hours_21 nhb nwb nkb hLv hfb hq haz f_1_1_0 c_4 c_5), ⟨V, G, nv0, nv1, nv2, nv3, nv5, ng1, ng2, ng3, ng4, ng5, nhh, nww, nkk, q, az, va_Ht ht hX9.1, hX9.2, hok, (by omega), (by omega), (by omega), (by omega), (by omega), (lf_X7_hours_18 nhb nwb nkb hLv hfb hq haz f_1_1_0 c_4 c_5), (lf_X7_hours_19 nhb nwb nkb hLv hfb hq haz f_1_1_0 c_4 c_5), (lf_X7_hours_20 nhb nwb nkb hLv hfb hq haz f_1_1_0 c_4 c_5)⟩⟩, hS.F ht⟩) hS.2.2 dX7_hours_26
