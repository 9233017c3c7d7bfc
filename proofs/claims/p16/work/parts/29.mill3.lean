set_option maxHeartbeats 60000 in
theorem lf_X7_cap_1 {nv0 : Int32} {nv1 : Int32} {nv2 : Int32} {nv3 : Int32} {nv5 : Int32} {nhh : Nat} {nww : Nat} {nkk : Nat} {ng1 : Nat → Int32} {ng2 : Nat → Int32} {ng3 : Nat → Int32} {ng4 : Nat → Int32} {ng5 : Nat → Int32} {q : Nat} {az : Nat} {fb : Nat → Option Nat} {ad : Nat → Nat} {V : Nat → Nat → Int32} (nhb : nhh ≤ 999) (nwb : nww ≤ 6) (nkb : nkk ≤ 6) (hLv : okLv (nrm nv0 nv1 nv2 nv3 nhh nv5 nww nkk ng1 ng2 ng3 ng4 ng5)) (hfb : ∀ i : Nat, i < 24 → fb i = some (ad i)) (hok : ∀ i : Nat, i < 24 → okL (V i)) (hq : q < 24) (haz : az ≤ 24) (f_1_0_0 : ¬ 0 < nv0) : (nrm nv0 nv1 nv2 nv3 nhh nv5 nww nkk ng1 ng2 ng3 ng4 ng5) = n_cap (nrm nv0 nv1 nv2 nv3 nhh nv5 nww nkk ng1 ng2 ng3 ng4 ng5) := by
  first
  | with_reducible exact cp_l (cp_n (hz_0 hLv nhb nwb nkb f_1_0_0))
  | with_reducible exact kz_n (cp_n (hz_0 hLv nhb nwb nkb f_1_0_0))
  | with_reducible exact kc_n (cp_n (hz_0 hLv nhb nwb nkb f_1_0_0))
  | with_reducible exact cp_a (cp_n (hz_0 hLv nhb nwb nkb f_1_0_0))
  | omega
set_option maxHeartbeats 60000 in
theorem lf_X7_cap_2 {nv0 : Int32} {nv1 : Int32} {nv2 : Int32} {nv3 : Int32} {nv5 : Int32} {nhh : Nat} {nww : Nat} {nkk : Nat} {ng1 : Nat → Int32} {ng2 : Nat → Int32} {ng3 : Nat → Int32} {ng4 : Nat → Int32} {ng5 : Nat → Int32} {q : Nat} {az : Nat} {fb : Nat → Option Nat} {ad : Nat → Nat} {V : Nat → Nat → Int32} (nhb : nhh ≤ 999) (nwb : nww ≤ 6) (nkb : nkk ≤ 6) (hLv : okLv (nrm nv0 nv1 nv2 nv3 nhh nv5 nww nkk ng1 ng2 ng3 ng4 ng5)) (hfb : ∀ i : Nat, i < 24 → fb i = some (ad i)) (hok : ∀ i : Nat, i < 24 → okL (V i)) (hq : q < 24) (haz : az ≤ 24) (f_1_0_0 : ¬ 0 < nv0) : az = kpN (gd_cap (nrm nv0 nv1 nv2 nv3 nhh nv5 nww nkk ng1 ng2 ng3 ng4 ng5)) az := by
  first
  | with_reducible exact cp_l (cp_n (hz_0 hLv nhb nwb nkb f_1_0_0))
  | with_reducible exact kz_n (cp_n (hz_0 hLv nhb nwb nkb f_1_0_0))
  | with_reducible exact kc_n (cp_n (hz_0 hLv nhb nwb nkb f_1_0_0))
  | with_reducible exact cp_a (cp_n (hz_0 hLv nhb nwb nkb f_1_0_0))
  | omega
set_option maxHeartbeats 60000 in
theorem lf_X7_cap_3 {nv0 : Int32} {nv1 : Int32} {nv2 : Int32} {nv3 : Int32} {nv5 : Int32} {nhh : Nat} {nww : Nat} {nkk : Nat} {ng1 : Nat → Int32} {ng2 : Nat → Int32} {ng3 : Nat → Int32} {ng4 : Nat → Int32} {ng5 : Nat → Int32} {q : Nat} {az : Nat} {fb : Nat → Option Nat} {ad : Nat → Nat} {V : Nat → Nat → Int32} {G : Nat → Nat → Nat → Int32} (nhb : nhh ≤ 999) (nwb : nww ≤ 6) (nkb : nkk ≤ 6) (hLv : okLv (nrm nv0 nv1 nv2 nv3 nhh nv5 nww nkk ng1 ng2 ng3 ng4 ng5)) (hfb : ∀ i : Nat, i < 24 → fb i = some (ad i)) (hok : ∀ i : Nat, i < 24 → okL (V i)) (hq : q < 24) (haz : az ≤ 24) (f_1_0_0 : ¬ 0 < nv0) : acX q az V G = kpA (gd_cap (nrm nv0 nv1 nv2 nv3 nhh nv5 nww nkk ng1 ng2 ng3 ng4 ng5)) (nrm nv0 nv1 nv2 nv3 nhh nv5 nww nkk ng1 ng2 ng3 ng4 ng5) az (acX q az V G) := by
  first
  | with_reducible exact cp_l (cp_n (hz_0 hLv nhb nwb nkb f_1_0_0))
  | with_reducible exact kz_n (cp_n (hz_0 hLv nhb nwb nkb f_1_0_0))
  | with_reducible exact kc_n (cp_n (hz_0 hLv nhb nwb nkb f_1_0_0))
  | with_reducible exact cp_a (cp_n (hz_0 hLv nhb nwb nkb f_1_0_0))
  | omega
set_option maxHeartbeats 60000 in
theorem lf_X7_cap_4 {nv0 : Int32} {nv1 : Int32} {nv2 : Int32} {nv3 : Int32} {nv5 : Int32} {nhh : Nat} {nww : Nat} {nkk : Nat} {ng1 : Nat → Int32} {ng2 : Nat → Int32} {ng3 : Nat → Int32} {ng4 : Nat → Int32} {ng5 : Nat → Int32} {q : Nat} {az : Nat} {fb : Nat → Option Nat} {ad : Nat → Nat} {V : Nat → Nat → Int32} (nhb : nhh ≤ 999) (nwb : nww ≤ 6) (nkb : nkk ≤ 6) (hLv : okLv (nrm nv0 nv1 nv2 nv3 nhh nv5 nww nkk ng1 ng2 ng3 ng4 ng5)) (hfb : ∀ i : Nat, i < 24 → fb i = some (ad i)) (hok : ∀ i : Nat, i < 24 → okL (V i)) (hq : q < 24) (haz : az ≤ 24) (f_1_0_0 : ¬ 0 < nv0) : (-1000002) = (a_cap (nrm nv0 nv1 nv2 nv3 nhh nv5 nww nkk ng1 ng2 ng3 ng4 ng5)) := by
  first
  | with_reducible exact cp_l (cp_n (hz_0 hLv nhb nwb nkb f_1_0_0))
  | with_reducible exact kz_n (cp_n (hz_0 hLv nhb nwb nkb f_1_0_0))
  | with_reducible exact kc_n (cp_n (hz_0 hLv nhb nwb nkb f_1_0_0))
  | with_reducible exact cp_a (cp_n (hz_0 hLv nhb nwb nkb f_1_0_0))
  | omega
set_option maxHeartbeats 60000 in
theorem lf_X7_cap_5 {nv0 : Int32} {nv1 : Int32} {nv2 : Int32} {nv3 : Int32} {nv5 : Int32} {nhh : Nat} {nww : Nat} {nkk : Nat} {ng1 : Nat → Int32} {ng2 : Nat → Int32} {ng3 : Nat → Int32} {ng4 : Nat → Int32} {ng5 : Nat → Int32} {q : Nat} {az : Nat} {fb : Nat → Option Nat} {ad : Nat → Nat} {V : Nat → Nat → Int32} {G : Nat → Nat → Nat → Int32} {Vn_4 : Nat → Nat → Int32} {Gn_4 : Nat → Nat → Nat → Int32} {qn_4 : Nat} {zn_4 : Nat} {v3n_5 : Int32} (nhb : nhh ≤ 999) (nwb : nww ≤ 6) (nkb : nkk ≤ 6) (hLv : okLv (nrm nv0 nv1 nv2 nv3 nhh nv5 nww nkk ng1 ng2 ng3 ng4 ng5)) (hfb : ∀ i : Nat, i < 24 → fb i = some (ad i)) (hok : ∀ i : Nat, i < 24 → okL (V i)) (hq : q < 24) (haz : az ≤ 24) (f_1_1_0 : 0 < nv0) (hF_4_0 : (∀ i : Nat, i < 24 → okL (Vn_4 i))) (hF_4_1 : qn_4 < 24) (hF_4_2 : zn_4 ≤ 24) (hF_4_3 : nrV (Vn_4 q) (Gn_4 q) = (nrm nv0 nv1 nv2 nv3 nhh nv5 nww nkk ng1 ng2 ng3 ng4 ng5)) (hF_4_4 : (∀ i : Nat, i < 24 → i ≠ q → nrV (Vn_4 i) (Gn_4 i) = nrV (V i) (G i))) (hF_4_5 : qn_4 = (q + 1) % 24) (hF_4_6 : zn_4 = ntN az) (hF_5_0 : v3n_5 = 1 - nv3) : (nrm nv0 nv1 nv2 v3n_5 nhh nv5 nww nkk ng1 ng2 ng3 ng4 ng5) = n_cap (nrm nv0 nv1 nv2 nv3 nhh nv5 nww nkk ng1 ng2 ng3 ng4 ng5) := by
  first
  | with_reducible exact cp_L (cp_g (hz_1 hLv nhb nwb nkb f_1_1_0)) hF_5_0
  | with_reducible exact kz_p (cp_g (hz_1 hLv nhb nwb nkb f_1_1_0)) hF_4_6
  | with_reducible exact kc_p (cp_g (hz_1 hLv nhb nwb nkb f_1_1_0)) hq haz hF_4_3 hF_4_4 hF_4_5 hF_4_6
  | with_reducible exact cp_A (cp_g (hz_1 hLv nhb nwb nkb f_1_1_0)) hF_5_0
  | omega
set_option maxHeartbeats 60000 in
theorem lf_X7_cap_6 {nv0 : Int32} {nv1 : Int32} {nv2 : Int32} {nv3 : Int32} {nv5 : Int32} {nhh : Nat} {nww : Nat} {nkk : Nat} {ng1 : Nat → Int32} {ng2 : Nat → Int32} {ng3 : Nat → Int32} {ng4 : Nat → Int32} {ng5 : Nat → Int32} {q : Nat} {az : Nat} {fb : Nat → Option Nat} {ad : Nat → Nat} {V : Nat → Nat → Int32} {G : Nat → Nat → Nat → Int32} {Vn_4 : Nat → Nat → Int32} {Gn_4 : Nat → Nat → Nat → Int32} {qn_4 : Nat} {zn_4 : Nat} {v3n_5 : Int32} (nhb : nhh ≤ 999) (nwb : nww ≤ 6) (nkb : nkk ≤ 6) (hLv : okLv (nrm nv0 nv1 nv2 nv3 nhh nv5 nww nkk ng1 ng2 ng3 ng4 ng5)) (hfb : ∀ i : Nat, i < 24 → fb i = some (ad i)) (hok : ∀ i : Nat, i < 24 → okL (V i)) (hq : q < 24) (haz : az ≤ 24) (f_1_1_0 : 0 < nv0) (hF_4_0 : (∀ i : Nat, i < 24 → okL (Vn_4 i))) (hF_4_1 : qn_4 < 24) (hF_4_2 : zn_4 ≤ 24) (hF_4_3 : nrV (Vn_4 q) (Gn_4 q) = (nrm nv0 nv1 nv2 nv3 nhh nv5 nww nkk ng1 ng2 ng3 ng4 ng5)) (hF_4_4 : (∀ i : Nat, i < 24 → i ≠ q → nrV (Vn_4 i) (Gn_4 i) = nrV (V i) (G i))) (hF_4_5 : qn_4 = (q + 1) % 24) (hF_4_6 : zn_4 = ntN az) (hF_5_0 : v3n_5 = 1 - nv3) : zn_4 = kpN (gd_cap (nrm nv0 nv1 nv2 nv3 nhh nv5 nww nkk ng1 ng2 ng3 ng4 ng5)) az := by
  first
  | with_reducible exact cp_L (cp_g (hz_1 hLv nhb nwb nkb f_1_1_0)) hF_5_0
  | with_reducible exact kz_p (cp_g (hz_1 hLv nhb nwb nkb f_1_1_0)) hF_4_6
  | with_reducible exact kc_p (cp_g (hz_1 hLv nhb nwb nkb f_1_1_0)) hq haz hF_4_3 hF_4_4 hF_4_5 hF_4_6
  | with_reducible exact cp_A (cp_g (hz_1 hLv nhb nwb nkb f_1_1_0)) hF_5_0
  | omega
set_option maxHeartbeats 60000 in
theorem lf_X7_cap_7 {nv0 : Int32} {nv1 : Int32} {nv2 : Int32} {nv3 : Int32} {nv5 : Int32} {nhh : Nat} {nww : Nat} {nkk : Nat} {ng1 : Nat → Int32} {ng2 : Nat → Int32} {ng3 : Nat → Int32} {ng4 : Nat → Int32} {ng5 : Nat → Int32} {q : Nat} {az : Nat} {fb : Nat → Option Nat} {ad : Nat → Nat} {V : Nat → Nat → Int32} {G : Nat → Nat → Nat → Int32} {Vn_4 : Nat → Nat → Int32} {Gn_4 : Nat → Nat → Nat → Int32} {qn_4 : Nat} {zn_4 : Nat} {v3n_5 : Int32} (nhb : nhh ≤ 999) (nwb : nww ≤ 6) (nkb : nkk ≤ 6) (hLv : okLv (nrm nv0 nv1 nv2 nv3 nhh nv5 nww nkk ng1 ng2 ng3 ng4 ng5)) (hfb : ∀ i : Nat, i < 24 → fb i = some (ad i)) (hok : ∀ i : Nat, i < 24 → okL (V i)) (hq : q < 24) (haz : az ≤ 24) (f_1_1_0 : 0 < nv0) (hF_4_0 : (∀ i : Nat, i < 24 → okL (Vn_4 i))) (hF_4_1 : qn_4 < 24) (hF_4_2 : zn_4 ≤ 24) (hF_4_3 : nrV (Vn_4 q) (Gn_4 q) = (nrm nv0 nv1 nv2 nv3 nhh nv5 nww nkk ng1 ng2 ng3 ng4 ng5)) (hF_4_4 : (∀ i : Nat, i < 24 → i ≠ q → nrV (Vn_4 i) (Gn_4 i) = nrV (V i) (G i))) (hF_4_5 : qn_4 = (q + 1) % 24) (hF_4_6 : zn_4 = ntN az) (hF_5_0 : v3n_5 = 1 - nv3) : acX qn_4 zn_4 Vn_4 Gn_4 = kpA (gd_cap (nrm nv0 nv1 nv2 nv3 nhh nv5 nww nkk ng1 ng2 ng3 ng4 ng5)) (nrm nv0 nv1 nv2 nv3 nhh nv5 nww nkk ng1 ng2 ng3 ng4 ng5) az (acX q az V G) := by
  first
  | with_reducible exact cp_L (cp_g (hz_1 hLv nhb nwb nkb f_1_1_0)) hF_5_0
  | with_reducible exact kz_p (cp_g (hz_1 hLv nhb nwb nkb f_1_1_0)) hF_4_6
  | with_reducible exact kc_p (cp_g (hz_1 hLv nhb nwb nkb f_1_1_0)) hq haz hF_4_3 hF_4_4 hF_4_5 hF_4_6
  | with_reducible exact cp_A (cp_g (hz_1 hLv nhb nwb nkb f_1_1_0)) hF_5_0
  | omega
set_option maxHeartbeats 60000 in
theorem lf_X7_cap_8 {nv0 : Int32} {nv1 : Int32} {nv2 : Int32} {nv3 : Int32} {nv5 : Int32} {nhh : Nat} {nww : Nat} {nkk : Nat} {ng1 : Nat → Int32} {ng2 : Nat → Int32} {ng3 : Nat → Int32} {ng4 : Nat → Int32} {ng5 : Nat → Int32} {q : Nat} {az : Nat} {fb : Nat → Option Nat} {ad : Nat → Nat} {V : Nat → Nat → Int32} {G : Nat → Nat → Nat → Int32} {Vn_4 : Nat → Nat → Int32} {Gn_4 : Nat → Nat → Nat → Int32} {qn_4 : Nat} {zn_4 : Nat} {v3n_5 : Int32} (nhb : nhh ≤ 999) (nwb : nww ≤ 6) (nkb : nkk ≤ 6) (hLv : okLv (nrm nv0 nv1 nv2 nv3 nhh nv5 nww nkk ng1 ng2 ng3 ng4 ng5)) (hfb : ∀ i : Nat, i < 24 → fb i = some (ad i)) (hok : ∀ i : Nat, i < 24 → okL (V i)) (hq : q < 24) (haz : az ≤ 24) (f_1_1_0 : 0 < nv0) (hF_4_0 : (∀ i : Nat, i < 24 → okL (Vn_4 i))) (hF_4_1 : qn_4 < 24) (hF_4_2 : zn_4 ≤ 24) (hF_4_3 : nrV (Vn_4 q) (Gn_4 q) = (nrm nv0 nv1 nv2 nv3 nhh nv5 nww nkk ng1 ng2 ng3 ng4 ng5)) (hF_4_4 : (∀ i : Nat, i < 24 → i ≠ q → nrV (Vn_4 i) (Gn_4 i) = nrV (V i) (G i))) (hF_4_5 : qn_4 = (q + 1) % 24) (hF_4_6 : zn_4 = ntN az) (hF_5_0 : v3n_5 = 1 - nv3) : v3n_5 = (a_cap (nrm nv0 nv1 nv2 nv3 nhh nv5 nww nkk ng1 ng2 ng3 ng4 ng5)) := by
  first
  | with_reducible exact cp_L (cp_g (hz_1 hLv nhb nwb nkb f_1_1_0)) hF_5_0
  | with_reducible exact kz_p (cp_g (hz_1 hLv nhb nwb nkb f_1_1_0)) hF_4_6
  | with_reducible exact kc_p (cp_g (hz_1 hLv nhb nwb nkb f_1_1_0)) hq haz hF_4_3 hF_4_4 hF_4_5 hF_4_6
  | with_reducible exact cp_A (cp_g (hz_1 hLv nhb nwb nkb f_1_1_0)) hF_5_0
  | omega
set_option maxHeartbeats 4000000 in
set_option maxRecDepth 100000 in
theorem r_X7_cap (l : Launch) (dC : Nat → ClassId) (dI : Nat → Nat → Nat) (cI cZ cL cJ : ClassId) (sz : Nat) (x : Nat) (ro : Nat) (ta : Nat) (no : Nat) (ac : Nat) (im : Nat) (tr : Nat) (pl : Nat) (cs : Nat) (ak : Nat) (xf : Int32) (xg : Int32) (nv0 : Int32) (nv1 : Int32) (nv2 : Int32) (nv3 : Int32) (nv5 : Int32) (nhh : Nat) (nww : Nat) (nkk : Nat) (nb1 : Nat) (nb2 : Nat) (nb3 : Nat) (nb4 : Nat) (nb5 : Nat) (ng1 : Nat → Int32) (ng2 : Nat → Int32) (ng3 : Nat → Int32) (ng4 : Nat → Int32) (ng5 : Nat → Int32) (be : Nat) (q : Nat) (az : Nat) (fb : Nat → Option Nat) (ad : Nat → Nat) (bd : Nat → Nat → Nat) (V : Nat → Nat → Int32) (G : Nat → Nat → Nat → Int32) (nhb : nhh ≤ 999) (nwb : nww ≤ 6) (nkb : nkk ≤ 6) (hLv : okLv (nrm nv0 nv1 nv2 nv3 nhh nv5 nww nkk ng1 ng2 ng3 ng4 ng5)) (hfb : ∀ i : Nat, i < 24 → fb i = some (ad i)) (hok : ∀ i : Nat, i < 24 → okL (V i)) (hq : q < 24) (haz : az ≤ 24) : Met l yX7_cap wsX7_cap ({ frames := 3, cells := 0, slots := 0, locals := 122 }) (va_Pc [.ref x] (fun U => U.heap.size = sz ∧ va_P (dC, dI) vwCl (([(xo_7_rrrrrrrrrii x ro ta no ac im tr pl cs ak xf xg), (xo_3_iiiiiiiirrrrr no nv0 nv1 nv2 nv3 (nI nhh) nv5 (nI nww) (nI nkk) nb1 nb2 nb3 nb4 nb5), (xI nb1 cI 6 ng1), (xI nb2 cI 6 ng2), (xI nb3 cI 6 ng3), (xI nb4 cI 6 ng4), (xI nb5 cI 6 ng5), (xo_0_rii ac be (nI q) (nI az)), (xJ be cL 24 fb)] : va_W) ++ lvs cI 24 ad bd V G) U.heap ∧ va_K (dC, dI) vwCl [(cI, .int), (cZ, .boolean), (cL, .object RX3), (cJ, .array .int)] U ∧ va_D (fun _ => True) (([(xo_7_rrrrrrrrrii x ro ta no ac im tr pl cs ak xf xg), (xo_3_iiiiiiiirrrrr no nv0 nv1 nv2 nv3 (nI nhh) nv5 (nI nww) (nI nkk) nb1 nb2 nb3 nb4 nb5), (xI nb1 cI 6 ng1), (xI nb2 cI 6 ng2), (xI nb3 cI 6 ng3), (xI nb4 cI 6 ng4), (xI nb5 cI 6 ng5), (xo_0_rii ac be (nI q) (nI az)), (xJ be cL 24 fb)] : va_W) ++ lvs cI 24 ad bd V G))) (va_Qi (fun r (_ : Unit) => r = (a_cap (nrm nv0 nv1 nv2 nv3 nhh nv5 nww nkk ng1 ng2 ng3 ng4 ng5))) (fun (_ : Unit) t => ∃ (Vn : Nat → Nat → Int32) (Gn : Nat → Nat → Nat → Int32) (nv0n : Int32) (nv1n : Int32) (nv2n : Int32) (nv3n : Int32) (nv5n : Int32) (ng1n : Nat → Int32) (ng2n : Nat → Int32) (ng3n : Nat → Int32) (ng4n : Nat → Int32) (ng5n : Nat → Int32) (nhn : Nat) (nwn : Nat) (nkn : Nat) (qn : Nat) (azn : Nat), va_P (dC, dI) vwCl (([(xo_7_rrrrrrrrrii x ro ta no ac im tr pl cs ak xf xg), (xo_3_iiiiiiiirrrrr no nv0n nv1n nv2n nv3n (nI nhn) nv5n (nI nwn) (nI nkn) nb1 nb2 nb3 nb4 nb5), (xI nb1 cI 6 ng1n), (xI nb2 cI 6 ng2n), (xI nb3 cI 6 ng3n), (xI nb4 cI 6 ng4n), (xI nb5 cI 6 ng5n), (xo_0_rii ac be (nI qn) (nI azn)), (xJ be cL 24 fb)] : va_W) ++ lvs cI 24 ad bd Vn Gn) t.heap ∧ va_D (va_A (([(xo_7_rrrrrrrrrii x ro ta no ac im tr pl cs ak xf xg), (xo_3_iiiiiiiirrrrr no nv0 nv1 nv2 nv3 (nI nhh) nv5 (nI nww) (nI nkk) nb1 nb2 nb3 nb4 nb5), (xI nb1 cI 6 ng1), (xI nb2 cI 6 ng2), (xI nb3 cI 6 ng3), (xI nb4 cI 6 ng4), (xI nb5 cI 6 ng5), (xo_0_rii ac be (nI q) (nI az)), (xJ be cL 24 fb)] : va_W) ++ lvs cI 24 ad bd V G) sz) (([(xo_7_rrrrrrrrrii x ro ta no ac im tr pl cs ak xf xg), (xo_3_iiiiiiiirrrrr no nv0n nv1n nv2n nv3n (nI nhn) nv5n (nI nwn) (nI nkn) nb1 nb2 nb3 nb4 nb5), (xI nb1 cI 6 ng1n), (xI nb2 cI 6 ng2n), (xI nb3 cI 6 ng3n), (xI nb4 cI 6 ng4n), (xI nb5 cI 6 ng5n), (xo_0_rii ac be (nI qn) (nI azn)), (xJ be cL 24 fb)] : va_W) ++ lvs cI 24 ad bd Vn Gn) ∧ (∀ i : Nat, i < 24 → okL (Vn i)) ∧ qn < 24 ∧ azn ≤ 24 ∧ nhn ≤ 999 ∧ nwn ≤ 6 ∧ nkn ≤ 6 ∧ (nrm nv0n nv1n nv2n nv3n nhn nv5n nwn nkn ng1n ng2n ng3n ng4n ng5n) = n_cap (nrm nv0 nv1 nv2 nv3 nhh nv5 nww nkk ng1 ng2 ng3 ng4 ng5) ∧ azn = kpN (gd_cap (nrm nv0 nv1 nv2 nv3 nhh nv5 nww nkk ng1 ng2 ng3 ng4 ng5)) az ∧ acX qn azn Vn Gn = kpA (gd_cap (nrm nv0 nv1 nv2 nv3 nhh nv5 nww nkk ng1 ng2 ng3 ng4 ng5)) (nrm nv0 nv1 nv2 nv3 nhh nv5 nww nkk ng1 ng2 ng3 ng4 ng5) az (acX q az V G)) (va_A (([(xo_7_rrrrrrrrrii x ro ta no ac im tr pl cs ak xf xg), (xo_3_iiiiiiiirrrrr no nv0 nv1 nv2 nv3 (nI nhh) nv5 (nI nww) (nI nkk) nb1 nb2 nb3 nb4 nb5), (xI nb1 cI 6 ng1), (xI nb2 cI 6 ng2), (xI nb3 cI 6 ng3), (xI nb4 cI 6 ng4), (xI nb5 cI 6 ng5), (xo_0_rii ac be (nI q) (nI az)), (xJ be cL 24 fb)] : va_W) ++ lvs cI 24 ad bd V G) sz)) 0 0 (va_A (([(xo_7_rrrrrrrrrii x ro ta no ac im tr pl cs ak xf xg), (xo_3_iiiiiiiirrrrr no nv0 nv1 nv2 nv3 (nI nhh) nv5 (nI nww) (nI nkk) nb1 nb2 nb3 nb4 nb5), (xI nb1 cI 6 ng1), (xI nb2 cI 6 ng2), (xI nb3 cI 6 ng3), (xI nb4 cI 6 ng4), (xI nb5 cI 6 ng5), (xo_0_rii ac be (nI q) (nI az)), (xJ be cL 24 fb)] : va_W) ++ lvs cI 24 ad bd V G) sz) := by
  refine Met.ofW (cc := cX7_cap) (maxL := 1) (ret := (some .int)) (by decide) rfl ?_
  intro p e s m args below meth c s₁ B hml hv
  obtain ⟨rfl, hsz, hP, hK, hD0⟩ := hv
  have hx := B.exec
  have hb := B.bytes
  have hr := B.returns
  have hts := atoms_spec (ws := wsX7_cap) B.pre
  have hown : s.vm.findClass RX7 = some m.cls := findClass_of_methodNamed B.named
  have hlocks := B.notSynchronized
  subst hsz
  have hD := hD0.self (sz := s.heap.size)
  generalize hAe : va_A (([(xo_7_rrrrrrrrrii x ro ta no ac im tr pl cs ak xf xg), (xo_3_iiiiiiiirrrrr no nv0 nv1 nv2 nv3 (nI nhh) nv5 (nI nww) (nI nkk) nb1 nb2 nb3 nb4 nb5), (xI nb1 cI 6 ng1), (xI nb2 cI 6 ng2), (xI nb3 cI 6 ng3), (xI nb4 cI 6 ng4), (xI nb5 cI 6 ng5), (xo_0_rii ac be (nI q) (nI az)), (xJ be cL 24 fb)] : va_W) ++ lvs cI 24 ad bd V G) s.heap.size = A at hD ⊢
  have hA : ∀ q : Nat, s.heap.size ≤ q → A q := fun q h => by rw [← hAe]; exact Or.inr h
  have hS : va_S A s.heap s.heap [] := va_S.rf
  have hP : va_P (dC, dI) vwCl (([(xo_7_rrrrrrrrrii x ro ta no ac im tr pl cs ak xf xg), (xo_3_iiiiiiiirrrrr no nv0 nv1 nv2 nv3 (nI nhh) nv5 (nI nww) (nI nkk) nb1 nb2 nb3 nb4 nb5), (xI nb1 cI 6 ng1), (xI nb2 cI 6 ng2), (xI nb3 cI 6 ng3), (xI nb4 cI 6 ng4), (xI nb5 cI 6 ng5), (xo_0_rii ac be (nI q) (nI az)), (xJ be cL 24 fb)] : va_W) ++ lvs cI 24 ad bd V G) s.heap := hP
  have hl := lv_entry ([.ref x]) (n := 1) (Nat.le_of_ble_eq_true rfl)
  rw [lg_entry_eq]
  generalize (lg_sl ([.ref x]) ++ List.replicate (1 - (lg_sl ([.ref x])).length) Slot.unset).toArray = ls at hl ⊢
  have hl : lv_has ls 1 [(0, .ref x)] := hl
  refine lv_aload_n hx hb dX7_cap_0 rfl (lv_at hl 0 rfl) ?_
  refine va_get (D := (dC, dI)) (ci := 7) (v := .ref no) (C := RX7) (T := TX7) (N := 11) hx hb hts i_X7_cap_X7 hown hK hP 0 rfl rfl 2 (by decide) (hts _ mx_X7_cap_1) (fun _ h9 => h9) rfl dX7_cap_1 ?_
  have hPc_1 := hP.sub (ws' := [(xo_3_iiiiiiiirrrrr no nv0 nv1 nv2 nv3 (nI nhh) nv5 (nI nww) (nI nkk) nb1 nb2 nb3 nb4 nb5), (xI nb1 cI 6 ng1), (xI nb2 cI 6 ng2), (xI nb3 cI 6 ng3), (xI nb4 cI 6 ng4), (xI nb5 cI 6 ng5)]) [1, 2, 3, 4, 5, 6] rfl
  refine vp_callSi (W.runV (As := []) (rest := []) ⟨hx, hb, hml, hown, hts⟩ (r_X3_isTold l dC dI cI cZ cL cJ no nv0 nv1 nv2 nv3 nv5 nhh nww nkk nb1 nb2 nb3 nb4 nb5 ng1 ng2 ng3 ng4 ng5 (by omega) (by omega) (by omega)) (cwV 0 hts gX7_cap_X3_isTold rfl rfl rfl (by decide +kernel) ⟨Nat.le_of_ble_eq_true rfl, Nat.le_of_ble_eq_true rfl⟩) (pvP 3 1 hK hP rfl rfl hPc_1) rfl rfl hl.1 rfl (lv_room (Nat.le_of_ble_eq_true rfl)) dX7_cap_4 ⟨Nat.le_of_ble_eq_true rfl, Nat.le_of_ble_eq_true rfl⟩) (fun r_1 h_1 => ?_)
  rcases h_1 with ⟨h_1, f_1_0_0⟩ | ⟨h_1, f_1_1_0⟩
  · subst h_1
    refine lv_if_ne (tgt := 13) hx hb dX7_cap_7 (by decide) (fun c_ => absurd (by decide) c_) (fun _ => ?_)
    refine lv_ldc (own := RX7) (v := (-1000002)) hx hb hown (hts _ mx_X7_cap_2) dX7_cap_10 ?_
    have hX9 := cut2P (cx := [(xo_7_rrrrrrrrrii x ro ta no ac im tr pl cs ak xf xg), (xo_3_iiiiiiiirrrrr no nv0 nv1 nv2 nv3 (nI nhh) nv5 (nI nww) (nI nkk) nb1 nb2 nb3 nb4 nb5), (xI nb1 cI 6 ng1), (xI nb2 cI 6 ng2), (xI nb3 cI 6 ng3), (xI nb4 cI 6 ng4), (xI nb5 cI 6 ng5), (xo_0_rii ac be (nI q) (nI az)), (xJ be cL 24 fb)]) hP hD [0, 1, 2, 3, 4, 5, 6, 7, 8] (by decide +kernel) rfl
    exact W.iret (v := (-1000002)) hx hb hr (fun t ht hW => ⟨⟨(-1000002), (), rfl, (lf_X7_cap_4 nhb nwb nkb hLv hfb hok hq haz f_1_0_0), ⟨V, G, nv0, nv1, nv2, nv3, nv5, ng1, ng2, ng3, ng4, ng5, nhh, nww, nkk, q, az, va_Ht ht hX9.1, hX9.2, hok, (by omega), (by omega), (by omega), (by omega), (by omega), (lf_X7_cap_1 nhb nwb nkb hLv hfb hok hq haz f_1_0_0), (lf_X7_cap_2 nhb nwb nkb hLv hfb hok hq haz f_1_0_0), (lf_X7_cap_3 nhb nwb nkb hLv hfb hok hq haz f_1_0_0)⟩⟩, hS.F ht⟩) hS.2.2 dX7_cap_12
  · subst h_1
    refine lv_if_ne (tgt := 13) hx hb dX7_cap_7 (by decide) (fun _ => ?_) (fun c_ => absurd c_ (by decide))
    refine lv_aload_n hx hb dX7_cap_13 rfl (lv_at hl 0 rfl) ?_
    refine va_get (D := (dC, dI)) (ci := 7) (v := .ref ac) (C := RX7) (T := TX7) (N := 11) hx hb hts i_X7_cap_X7 hown hK hP 0 rfl rfl 3 (by decide) (hts _ mx_X7_cap_3) (fun _ h9 => h9) rfl dX7_cap_14 ?_
    refine lv_aload_n hx hb dX7_cap_17 rfl (lv_at hl 0 rfl) ?_
    refine va_get (D := (dC, dI)) (ci := 7) (v := .ref no) (C := RX7) (T := TX7) (N := 11) hx hb hts i_X7_cap_X7 hown hK hP 0 rfl rfl 2 (by decide) (hts _ mx_X7_cap_1) (fun _ h9 => h9) rfl dX7_cap_18 ?_
    have hc_4 := cutP (cx := [(xo_0_rii ac be (nI q) (nI az)), (xJ be cL 24 fb), (xo_3_iiiiiiiirrrrr no nv0 nv1 nv2 nv3 (nI nhh) nv5 (nI nww) (nI nkk) nb1 nb2 nb3 nb4 nb5), (xI nb1 cI 6 ng1), (xI nb2 cI 6 ng2), (xI nb3 cI 6 ng3), (xI nb4 cI 6 ng4), (xI nb5 cI 6 ng5)]) hP hD hS hA [7, 8, 1, 2, 3, 4, 5, 6] (by decide +kernel) rfl
    refine va_callv (va_runV (As := [.ref no]) (rest := []) ⟨hx, hb, hml, hown, hts⟩ (r_X0_keep l dC dI cI cZ cL cJ s.heap.size ac be q az fb ad bd V G no nv0 nv1 nv2 nv3 nv5 nhh nww nkk nb1 nb2 nb3 nb4 nb5 ng1 ng2 ng3 ng4 ng5 (hfb) (hok) (by omega) (by omega) (by omega) (by omega) (by omega)) (cwV 1 hts gX7_cap_X0_keep rfl rfl rfl (by decide +kernel) ⟨Nat.le_of_ble_eq_true rfl, Nat.le_of_ble_eq_true rfl⟩) (pvW 0 7 hK hP rfl rfl hc_4) rfl rfl hl.1 rfl (lv_room (Nat.le_of_ble_eq_true rfl)) dX7_cap_21 ⟨Nat.le_of_ble_eq_true rfl, Nat.le_of_ble_eq_true rfl⟩) hS (fun q _ h => hc_4.2.2 q h) hc_4.2.2 (fun u_4 t_4 H1 locs ht hvm h_4 hB hz1 hk1 hS => ?_)
    refine xl_4_9 hB (fun Vn_4 Gn_4 qn_4 zn_4 hP1 hD1 hF_4_0 hF_4_1 hF_4_2 hF_4_3 hF_4_4 hF_4_5 hF_4_6 => ?_)
    clear hB
    rw [ht] at hP1
    obtain ⟨hP, hD⟩ := va_joinP (wr := [(xo_7_rrrrrrrrrii x ro ta no ac im tr pl cs ak xf xg)]) (rx := [(xo_0_rii ac be (nI qn_4) (nI zn_4)), (xJ be cL 24 fb), (xo_3_iiiiiiiirrrrr no nv0 nv1 nv2 nv3 (nI nhh) nv5 (nI nww) (nI nkk) nb1 nb2 nb3 nb4 nb5), (xI nb1 cI 6 ng1), (xI nb2 cI 6 ng2), (xI nb3 cI 6 ng3), (xI nb4 cI 6 ng4), (xI nb5 cI 6 ng5)]) (pl1 := lvs cI 24 ad bd Vn_4 Gn_4) hP hD [7, 8, 1, 2, 3, 4, 5, 6] [0] rfl rfl (by decide +kernel) (by decide +kernel) hk1 hc_4.2.2 hP1 hD1
    generalize H1 = H at hP hS ⊢
    have hP : va_P (dC, dI) vwCl (([(xo_7_rrrrrrrrrii x ro ta no ac im tr pl cs ak xf xg), (xo_0_rii ac be (nI qn_4) (nI zn_4)), (xJ be cL 24 fb), (xo_3_iiiiiiiirrrrr no nv0 nv1 nv2 nv3 (nI nhh) nv5 (nI nww) (nI nkk) nb1 nb2 nb3 nb4 nb5), (xI nb1 cI 6 ng1), (xI nb2 cI 6 ng2), (xI nb3 cI 6 ng3), (xI nb4 cI 6 ng4), (xI nb5 cI 6 ng5)] : va_W) ++ lvs cI 24 ad bd Vn_4 Gn_4) H := hP
    have hD := dto hP hD
    refine lv_aload_n hx hb dX7_cap_24 rfl (lv_at hl 0 rfl) ?_
    refine va_get (D := (dC, dI)) (ci := 7) (v := .ref no) (C := RX7) (T := TX7) (N := 11) hx hb hts i_X7_cap_X7 hown hK hP 0 rfl rfl 2 (by decide) (hts _ mx_X7_cap_1) (fun _ h9 => h9) rfl dX7_cap_25 ?_
    have hc_5 := cutX (wc := [(xo_3_iiiiiiiirrrrr no nv0 nv1 nv2 nv3 (nI nhh) nv5 (nI nww) (nI nkk) nb1 nb2 nb3 nb4 nb5), (xI nb1 cI 6 ng1), (xI nb2 cI 6 ng2), (xI nb3 cI 6 ng3), (xI nb4 cI 6 ng4), (xI nb5 cI 6 ng5)]) hP hD hS hA [3, 4, 5, 6, 7, 8] (by decide +kernel) rfl
    refine va_callv (va_runV (As := []) (rest := []) ⟨hx, hb, hml, hown, hts⟩ (r_X3_turnCap l dC dI cI cZ cL cJ H.size no nv0 nv1 nv2 nv3 nv5 nhh nww nkk nb1 nb2 nb3 nb4 nb5 ng1 ng2 ng3 ng4 ng5 (by omega) (by omega) (by omega)) (cwV 0 hts gX7_cap_X3_turnCap rfl rfl rfl (by decide +kernel) ⟨Nat.le_of_ble_eq_true rfl, Nat.le_of_ble_eq_true rfl⟩) (pvW 3 3 hK hP rfl rfl hc_5) rfl rfl hl.1 rfl (lv_room (Nat.le_of_ble_eq_true rfl)) dX7_cap_28 ⟨Nat.le_of_ble_eq_true rfl, Nat.le_of_ble_eq_true rfl⟩) hS (fun q _ h => hc_5.2.2 q h) hc_5.2.2 (fun u_5 t_5 H1 locs ht hvm h_5 hB hz1 hk1 hS => ?_)
    refine xl_1_3 hB (fun v3n_5 hP1 hD1 hF_5_0 => ?_)
    clear hB
    rw [ht] at hP1
    obtain ⟨hP, hD⟩ := va_joinQ (wr := [(xo_7_rrrrrrrrrii x ro ta no ac im tr pl cs ak xf xg), (xo_0_rii ac be (nI qn_4) (nI zn_4)), (xJ be cL 24 fb)]) (w1 := [(xo_3_iiiiiiiirrrrr no nv0 nv1 nv2 v3n_5 (nI nhh) nv5 (nI nww) (nI nkk) nb1 nb2 nb3 nb4 nb5), (xI nb1 cI 6 ng1), (xI nb2 cI 6 ng2), (xI nb3 cI 6 ng3), (xI nb4 cI 6 ng4), (xI nb5 cI 6 ng5)]) hP hD [3, 4, 5, 6, 7, 8] [0, 1, 2] rfl rfl (by decide +kernel) (by decide +kernel) hk1 hc_5.2.2 hP1 hD1
    generalize H1 = H at hP hS ⊢
    have hP : va_P (dC, dI) vwCl (([(xo_7_rrrrrrrrrii x ro ta no ac im tr pl cs ak xf xg), (xo_0_rii ac be (nI qn_4) (nI zn_4)), (xJ be cL 24 fb), (xo_3_iiiiiiiirrrrr no nv0 nv1 nv2 v3n_5 (nI nhh) nv5 (nI nww) (nI nkk) nb1 nb2 nb3 nb4 nb5), (xI nb1 cI 6 ng1), (xI nb2 cI 6 ng2), (xI nb3 cI 6 ng3), (xI nb4 cI 6 ng4), (xI nb5 cI 6 ng5)] : va_W) ++ lvs cI 24 ad bd Vn_4 Gn_4) H := hP
    have hD := dto hP hD
    refine lv_aload_n hx hb dX7_cap_31 rfl (lv_at hl 0 rfl) ?_
    refine va_get (D := (dC, dI)) (ci := 7) (v := .ref no) (C := RX7) (T := TX7) (N := 11) hx hb hts i_X7_cap_X7 hown hK hP 0 rfl rfl 2 (by decide) (hts _ mx_X7_cap_1) (fun _ h9 => h9) rfl dX7_cap_32 ?_
    refine va_get (D := (dC, dI)) (ci := 3) (v := .int v3n_5) (C := RX3) (T := TX3) (N := 13) hx hb hts i_X7_cap_X3 hown hK hP 3 rfl rfl 3 (by decide) (hts _ mx_X7_cap_4) (fun _ h9 => h9) rfl dX7_cap_35 ?_
    have hX9 := cut2P (cx := [(xo_7_rrrrrrrrrii x ro ta no ac im tr pl cs ak xf xg), (xo_3_iiiiiiiirrrrr no nv0 nv1 nv2 v3n_5 (nI nhh) nv5 (nI nww) (nI nkk) nb1 nb2 nb3 nb4 nb5), (xI nb1 cI 6 ng1), (xI nb2 cI 6 ng2), (xI nb3 cI 6 ng3), (xI nb4 cI 6 ng4), (xI nb5 cI 6 ng5), (xo_0_rii ac be (nI qn_4) (nI zn_4)), (xJ be cL 24 fb)]) hP hD [0, 3, 4, 5, 6, 7, 8, 1, 2] (by decide +kernel) rfl
    exact W.iret (v := v3n_5) hx hb hr (fun t ht hW => ⟨⟨v3n_5, (), rfl, (lf_X7_cap_8 nhb nwb nkb hLv hfb hok hq haz f_1_1_0 hF_4_0 hF_4_1 hF_4_2 hF_4_3 hF_4_4 hF_4_5 hF_4_6 hF_5_0), ⟨Vn_4, Gn_4, nv0, nv1, nv2, v3n_5, nv5, ng1, ng2, ng3, ng4, ng5, nhh, nww, nkk, qn_4, zn_4, va_Ht ht hX9.1, hX9.2, hF_4_0, (by omega), (by omega), (by omega), (by omega), (by omega), (lf_X7_cap_5 nhb nwb nkb hLv hfb hok hq haz f_1_1_0 hF_4_0 hF_4_1 hF_4_2 hF_4_3 hF_4_4 hF_4_5 hF_4_6 hF_5_0), (lf_X7_cap_6 nhb nwb nkb hLv hfb hok hq haz f_1_1_0 hF_4_0 hF_4_1 hF_4_2 hF_4_3 hF_4_4 hF_4_5 hF_4_6 hF_5_0), (lf_X7_cap_7 nhb nwb nkb hLv hfb hok hq haz f_1_1_0 hF_4_0 hF_4_1 hF_4_2 hF_4_3 hF_4_4 hF_4_5 hF_4_6 hF_5_0)⟩⟩, hS.F ht⟩) hS.2.2 dX7_cap_38
set_option maxHeartbeats 60000 in
theorem lf_X7_wind_1 {nv0 : Int32} {nv1 : Int32} {nv2 : Int32} {nv3 : Int32} {nv5 : Int32} {nhh : Nat} {nww : Nat} {nkk : Nat} {ng1 : Nat → Int32} {ng2 : Nat → Int32} {ng3 : Nat → Int32} {ng4 : Nat → Int32} {ng5 : Nat → Int32} {q : Nat} {az : Nat} {fb : Nat → Option Nat} {ad : Nat → Nat} {V : Nat → Nat → Int32} {k0 : Int32} {k1 : Int32} (nhb : nhh ≤ 999) (nwb : nww ≤ 6) (nkb : nkk ≤ 6) (hLv : okLv (nrm nv0 nv1 nv2 nv3 nhh nv5 nww nkk ng1 ng2 ng3 ng4 ng5)) (hfb : ∀ i : Nat, i < 24 → fb i = some (ad i)) (hok : ∀ i : Nat, i < 24 → okL (V i)) (hq : q < 24) (haz : az ≤ 24) (f_1_0_0 : (k0 < 0 ∨ (nI nww) ≤ k0)) : (nrm nv0 nv1 nv2 nv3 nhh nv5 nww nkk ng1 ng2 ng3 ng4 ng5) = n_wind (nrm nv0 nv1 nv2 nv3 nhh nv5 nww nkk ng1 ng2 ng3 ng4 ng5) k0 k1 := by
  first
  | with_reducible exact wi_l (wi_g1 f_1_0_0)
  | with_reducible exact kz_n (wi_g1 f_1_0_0)
  | with_reducible exact kc_n (wi_g1 f_1_0_0)
  | with_reducible exact wi_a (wi_g1 f_1_0_0)
  | omega
set_option maxHeartbeats 60000 in
theorem lf_X7_wind_2 {nv0 : Int32} {nv1 : Int32} {nv2 : Int32} {nv3 : Int32} {nv5 : Int32} {nhh : Nat} {nww : Nat} {nkk : Nat} {ng1 : Nat → Int32} {ng2 : Nat → Int32} {ng3 : Nat → Int32} {ng4 : Nat → Int32} {ng5 : Nat → Int32} {q : Nat} {az : Nat} {fb : Nat → Option Nat} {ad : Nat → Nat} {V : Nat → Nat → Int32} {k0 : Int32} {k1 : Int32} (nhb : nhh ≤ 999) (nwb : nww ≤ 6) (nkb : nkk ≤ 6) (hLv : okLv (nrm nv0 nv1 nv2 nv3 nhh nv5 nww nkk ng1 ng2 ng3 ng4 ng5)) (hfb : ∀ i : Nat, i < 24 → fb i = some (ad i)) (hok : ∀ i : Nat, i < 24 → okL (V i)) (hq : q < 24) (haz : az ≤ 24) (f_1_0_0 : (k0 < 0 ∨ (nI nww) ≤ k0)) : az = kpN (gd_wind (nrm nv0 nv1 nv2 nv3 nhh nv5 nww nkk ng1 ng2 ng3 ng4 ng5) k0 k1) az := by
  first
  | with_reducible exact wi_l (wi_g1 f_1_0_0)
  | with_reducible exact kz_n (wi_g1 f_1_0_0)
  | with_reducible exact kc_n (wi_g1 f_1_0_0)
  | with_reducible exact wi_a (wi_g1 f_1_0_0)
  | omega
set_option maxHeartbeats 60000 in
theorem lf_X7_wind_3 {nv0 : Int32} {nv1 : Int32} {nv2 : Int32} {nv3 : Int32} {nv5 : Int32} {nhh : Nat} {nww : Nat} {nkk : Nat} {ng1 : Nat → Int32} {ng2 : Nat → Int32} {ng3 : Nat → Int32} {ng4 : Nat → Int32} {ng5 : Nat → Int32} {q : Nat} {az : Nat} {fb : Nat → Option Nat} {ad : Nat → Nat} {V : Nat → Nat → Int32} {G : Nat → Nat → Nat → Int32} {k0 : Int32} {k1 : Int32} (nhb : nhh ≤ 999) (nwb : nww ≤ 6) (nkb : nkk ≤ 6) (hLv : okLv (nrm nv0 nv1 nv2 nv3 nhh nv5 nww nkk ng1 ng2 ng3 ng4 ng5)) (hfb : ∀ i : Nat, i < 24 → fb i = some (ad i)) (hok : ∀ i : Nat, i < 24 → okL (V i)) (hq : q < 24) (haz : az ≤ 24) (f_1_0_0 : (k0 < 0 ∨ (nI nww) ≤ k0)) : acX q az V G = kpA (gd_wind (nrm nv0 nv1 nv2 nv3 nhh nv5 nww nkk ng1 ng2 ng3 ng4 ng5) k0 k1) (nrm nv0 nv1 nv2 nv3 nhh nv5 nww nkk ng1 ng2 ng3 ng4 ng5) az (acX q az V G) := by
  first
  | with_reducible exact wi_l (wi_g1 f_1_0_0)
  | with_reducible exact kz_n (wi_g1 f_1_0_0)
  | with_reducible exact kc_n (wi_g1 f_1_0_0)
  | with_reducible exact wi_a (wi_g1 f_1_0_0)
  | omega
set_option maxHeartbeats 60000 in
theorem lf_X7_wind_4 {nv0 : Int32} {nv1 : Int32} {nv2 : Int32} {nv3 : Int32} {nv5 : Int32} {nhh : Nat} {nww : Nat} {nkk : Nat} {ng1 : Nat → Int32} {ng2 : Nat → Int32} {ng3 : Nat → Int32} {ng4 : Nat → Int32} {ng5 : Nat → Int32} {q : Nat} {az : Nat} {fb : Nat → Option Nat} {ad : Nat → Nat} {V : Nat → Nat → Int32} {k0 : Int32} {k1 : Int32} (nhb : nhh ≤ 999) (nwb : nww ≤ 6) (nkb : nkk ≤ 6) (hLv : okLv (nrm nv0 nv1 nv2 nv3 nhh nv5 nww nkk ng1 ng2 ng3 ng4 ng5)) (hfb : ∀ i : Nat, i < 24 → fb i = some (ad i)) (hok : ∀ i : Nat, i < 24 → okL (V i)) (hq : q < 24) (haz : az ≤ 24) (f_1_0_0 : (k0 < 0 ∨ (nI nww) ≤ k0)) : (-1000001) = (a_wind (nrm nv0 nv1 nv2 nv3 nhh nv5 nww nkk ng1 ng2 ng3 ng4 ng5) k0 k1) := by
  first
  | with_reducible exact wi_l (wi_g1 f_1_0_0)
  | with_reducible exact kz_n (wi_g1 f_1_0_0)
  | with_reducible exact kc_n (wi_g1 f_1_0_0)
  | with_reducible exact wi_a (wi_g1 f_1_0_0)
  | omega
set_option maxHeartbeats 60000 in
theorem lf_X7_wind_5 {nv0 : Int32} {nv1 : Int32} {nv2 : Int32} {nv3 : Int32} {nv5 : Int32} {nhh : Nat} {nww : Nat} {nkk : Nat} {ng1 : Nat → Int32} {ng2 : Nat → Int32} {ng3 : Nat → Int32} {ng4 : Nat → Int32} {ng5 : Nat → Int32} {q : Nat} {az : Nat} {fb : Nat → Option Nat} {ad : Nat → Nat} {V : Nat → Nat → Int32} {k1 : Int32} {j_1 : Nat} (nhb : nhh ≤ 999) (nwb : nww ≤ 6) (nkb : nkk ≤ 6) (hLv : okLv (nrm nv0 nv1 nv2 nv3 nhh nv5 nww nkk ng1 ng2 ng3 ng4 ng5)) (hfb : ∀ i : Nat, i < 24 → fb i = some (ad i)) (hok : ∀ i : Nat, i < 24 → okL (V i)) (hq : q < 24) (haz : az ≤ 24) (hj_1 : j_1 < nww) (c_5 : k1 < 0) : (nrm nv0 nv1 nv2 nv3 nhh nv5 nww nkk ng1 ng2 ng3 ng4 ng5) = n_wind (nrm nv0 nv1 nv2 nv3 nhh nv5 nww nkk ng1 ng2 ng3 ng4 ng5) (nI j_1) k1 := by
  first
  | with_reducible exact wi_l (wi_g2 c_5)
  | with_reducible exact kz_n (wi_g2 c_5)
  | with_reducible exact kc_n (wi_g2 c_5)
  | with_reducible exact wi_a (wi_g2 c_5)
  | omega
set_option maxHeartbeats 60000 in
theorem lf_X7_wind_6 {nv0 : Int32} {nv1 : Int32} {nv2 : Int32} {nv3 : Int32} {nv5 : Int32} {nhh : Nat} {nww : Nat} {nkk : Nat} {ng1 : Nat → Int32} {ng2 : Nat → Int32} {ng3 : Nat → Int32} {ng4 : Nat → Int32} {ng5 : Nat → Int32} {q : Nat} {az : Nat} {fb : Nat → Option Nat} {ad : Nat → Nat} {V : Nat → Nat → Int32} {k1 : Int32} {j_1 : Nat} (nhb : nhh ≤ 999) (nwb : nww ≤ 6) (nkb : nkk ≤ 6) (hLv : okLv (nrm nv0 nv1 nv2 nv3 nhh nv5 nww nkk ng1 ng2 ng3 ng4 ng5)) (hfb : ∀ i : Nat, i < 24 → fb i = some (ad i)) (hok : ∀ i : Nat, i < 24 → okL (V i)) (hq : q < 24) (haz : az ≤ 24) (hj_1 : j_1 < nww) (c_5 : k1 < 0) : az = kpN (gd_wind (nrm nv0 nv1 nv2 nv3 nhh nv5 nww nkk ng1 ng2 ng3 ng4 ng5) (nI j_1) k1) az := by
  first
  | with_reducible exact wi_l (wi_g2 c_5)
  | with_reducible exact kz_n (wi_g2 c_5)
  | with_reducible exact kc_n (wi_g2 c_5)
  | with_reducible exact wi_a (wi_g2 c_5)
  | omega
set_option maxHeartbeats 60000 in
theorem lf_X7_wind_7 {nv0 : Int32} {nv1 : Int32} {nv2 : Int32} {nv3 : Int32} {nv5 : Int32} {nhh : Nat} {nww : Nat} {nkk : Nat} {ng1 : Nat → Int32} {ng2 : Nat → Int32} {ng3 : Nat → Int32} {ng4 : Nat → Int32} {ng5 : Nat → Int32} {q : Nat} {az : Nat} {fb : Nat → Option Nat} {ad : Nat → Nat} {V : Nat → Nat → Int32} {G : Nat → Nat → Nat → Int32} {k1 : Int32} {j_1 : Nat} (nhb : nhh ≤ 999) (nwb : nww ≤ 6) (nkb : nkk ≤ 6) (hLv : okLv (nrm nv0 nv1 nv2 nv3 nhh nv5 nww nkk ng1 ng2 ng3 ng4 ng5)) (hfb : ∀ i : Nat, i < 24 → fb i = some (ad i)) (hok : ∀ i : Nat, i < 24 → okL (V i)) (hq : q < 24) (haz : az ≤ 24) (hj_1 : j_1 < nww) (c_5 : k1 < 0) : acX q az V G = kpA (gd_wind (nrm nv0 nv1 nv2 nv3 nhh nv5 nww nkk ng1 ng2 ng3 ng4 ng5) (nI j_1) k1) (nrm nv0 nv1 nv2 nv3 nhh nv5 nww nkk ng1 ng2 ng3 ng4 ng5) az (acX q az V G) := by
  first
  | with_reducible exact wi_l (wi_g2 c_5)
  | with_reducible exact kz_n (wi_g2 c_5)
  | with_reducible exact kc_n (wi_g2 c_5)
  | with_reducible exact wi_a (wi_g2 c_5)
  | omega
set_option maxHeartbeats 60000 in
theorem lf_X7_wind_8 {nv0 : Int32} {nv1 : Int32} {nv2 : Int32} {nv3 : Int32} {nv5 : Int32} {nhh : Nat} {nww : Nat} {nkk : Nat} {ng1 : Nat → Int32} {ng2 : Nat → Int32} {ng3 : Nat → Int32} {ng4 : Nat → Int32} {ng5 : Nat → Int32} {q : Nat} {az : Nat} {fb : Nat → Option Nat} {ad : Nat → Nat} {V : Nat → Nat → Int32} {k1 : Int32} {j_1 : Nat} (nhb : nhh ≤ 999) (nwb : nww ≤ 6) (nkb : nkk ≤ 6) (hLv : okLv (nrm nv0 nv1 nv2 nv3 nhh nv5 nww nkk ng1 ng2 ng3 ng4 ng5)) (hfb : ∀ i : Nat, i < 24 → fb i = some (ad i)) (hok : ∀ i : Nat, i < 24 → okL (V i)) (hq : q < 24) (haz : az ≤ 24) (hj_1 : j_1 < nww) (c_5 : k1 < 0) : (-1000001) = (a_wind (nrm nv0 nv1 nv2 nv3 nhh nv5 nww nkk ng1 ng2 ng3 ng4 ng5) (nI j_1) k1) := by
  first
  | with_reducible exact wi_l (wi_g2 c_5)
  | with_reducible exact kz_n (wi_g2 c_5)
  | with_reducible exact kc_n (wi_g2 c_5)
  | with_reducible exact wi_a (wi_g2 c_5)
  | omega
set_option maxHeartbeats 60000 in
theorem lf_X7_wind_9 {nv0 : Int32} {nv1 : Int32} {nv2 : Int32} {nv3 : Int32} {nv5 : Int32} {nhh : Nat} {nww : Nat} {nkk : Nat} {ng1 : Nat → Int32} {ng2 : Nat → Int32} {ng3 : Nat → Int32} {ng4 : Nat → Int32} {ng5 : Nat → Int32} {q : Nat} {az : Nat} {fb : Nat → Option Nat} {ad : Nat → Nat} {V : Nat → Nat → Int32} {G : Nat → Nat → Nat → Int32} {k1 : Int32} {j_1 : Nat} {v_7 : Int32} {Vn_8 : Nat → Nat → Int32} {Gn_8 : Nat → Nat → Nat → Int32} {qn_8 : Nat} {zn_8 : Nat} {g_9 : Nat → Int32} (nhb : nhh ≤ 999) (nwb : nww ≤ 6) (nkb : nkk ≤ 6) (hLv : okLv (nrm nv0 nv1 nv2 nv3 nhh nv5 nww nkk ng1 ng2 ng3 ng4 ng5)) (hfb : ∀ i : Nat, i < 24 → fb i = some (ad i)) (hok : ∀ i : Nat, i < 24 → okL (V i)) (hq : q < 24) (haz : az ≤ 24) (hj_1 : j_1 < nww) (c_5 : ¬ (k1 < 0)) (c_6 : k1 ≤ 4) (e_7 : v_7 = ng1 j_1) (hF_8_0 : (∀ i : Nat, i < 24 → okL (Vn_8 i))) (hF_8_1 : qn_8 < 24) (hF_8_2 : zn_8 ≤ 24) (hF_8_3 : nrV (Vn_8 q) (Gn_8 q) = (nrm nv0 nv1 nv2 nv3 nhh nv5 nww nkk ng1 ng2 ng3 ng4 ng5)) (hF_8_4 : (∀ i : Nat, i < 24 → i ≠ q → nrV (Vn_8 i) (Gn_8 i) = nrV (V i) (G i))) (hF_8_5 : qn_8 = (q + 1) % 24) (hF_8_6 : zn_8 = ntN az) (hu_9 : g_9 = upd ng1 j_1 k1) : (nrm nv0 nv1 nv2 nv3 nhh nv5 nww nkk g_9 ng2 ng3 ng4 ng5) = n_wind (nrm nv0 nv1 nv2 nv3 nhh nv5 nww nkk ng1 ng2 ng3 ng4 ng5) (nI j_1) k1 := by
  first
  | with_reducible exact wi_l (wi_g2 c_5)
  | with_reducible exact kz_n (wi_g2 c_5)
  | with_reducible exact kc_n (wi_g2 c_5)
  | with_reducible exact wi_a (wi_g2 c_5)
  | with_reducible exact wi_l (wi_g3 c_6)
  | with_reducible exact kz_n (wi_g3 c_6)
  | with_reducible exact kc_n (wi_g3 c_6)
  | with_reducible exact wi_a (wi_g3 c_6)
  | with_reducible exact wi_L hj_1 nwb c_5 c_6 hu_9
  | with_reducible exact kz_p (wi_p hj_1 nwb c_5 c_6) hF_8_6
  | with_reducible exact kc_p (wi_p hj_1 nwb c_5 c_6) hq haz hF_8_3 hF_8_4 hF_8_5 hF_8_6
  | with_reducible exact wi_A hj_1 nwb c_5 c_6 e_7
  | omega
set_option maxHeartbeats 60000 in
theorem lf_X7_wind_10 {nv0 : Int32} {nv1 : Int32} {nv2 : Int32} {nv3 : Int32} {nv5 : Int32} {nhh : Nat} {nww : Nat} {nkk : Nat} {ng1 : Nat → Int32} {ng2 : Nat → Int32} {ng3 : Nat → Int32} {ng4 : Nat → Int32} {ng5 : Nat → Int32} {q : Nat} {az : Nat} {fb : Nat → Option Nat} {ad : Nat → Nat} {V : Nat → Nat → Int32} {G : Nat → Nat → Nat → Int32} {k1 : Int32} {j_1 : Nat} {v_7 : Int32} {Vn_8 : Nat → Nat → Int32} {Gn_8 : Nat → Nat → Nat → Int32} {qn_8 : Nat} {zn_8 : Nat} {g_9 : Nat → Int32} (nhb : nhh ≤ 999) (nwb : nww ≤ 6) (nkb : nkk ≤ 6) (hLv : okLv (nrm nv0 nv1 nv2 nv3 nhh nv5 nww nkk ng1 ng2 ng3 ng4 ng5)) (hfb : ∀ i : Nat, i < 24 → fb i = some (ad i)) (hok : ∀ i : Nat, i < 24 → okL (V i)) (hq : q < 24) (haz : az ≤ 24) (hj_1 : j_1 < nww) (c_5 : ¬ (k1 < 0)) (c_6 : k1 ≤ 4) (e_7 : v_7 = ng1 j_1) (hF_8_0 : (∀ i : Nat, i < 24 → okL (Vn_8 i))) (hF_8_1 : qn_8 < 24) (hF_8_2 : zn_8 ≤ 24) (hF_8_3 : nrV (Vn_8 q) (Gn_8 q) = (nrm nv0 nv1 nv2 nv3 nhh nv5 nww nkk ng1 ng2 ng3 ng4 ng5)) (hF_8_4 : (∀ i : Nat, i < 24 → i ≠ q → nrV (Vn_8 i) (Gn_8 i) = nrV (V i) (G i))) (hF_8_5 : qn_8 = (q + 1) % 24) (hF_8_6 : zn_8 = ntN az) (hu_9 : g_9 = upd ng1 j_1 k1) : zn_8 = kpN (gd_wind (nrm nv0 nv1 nv2 nv3 nhh nv5 nww nkk ng1 ng2 ng3 ng4 ng5) (nI j_1) k1) az := by
  first
  | with_reducible exact wi_l (wi_g2 c_5)
  | with_reducible exact kz_n (wi_g2 c_5)
  | with_reducible exact kc_n (wi_g2 c_5)
  | with_reducible exact wi_a (wi_g2 c_5)
  | with_reducible exact wi_l (wi_g3 c_6)
  | with_reducible exact kz_n (wi_g3 c_6)
  | with_reducible exact kc_n (wi_g3 c_6)
  | with_reducible exact wi_a (wi_g3 c_6)
  | with_reducible exact wi_L hj_1 nwb c_5 c_6 hu_9
  | with_reducible exact kz_p (wi_p hj_1 nwb c_5 c_6) hF_8_6
  | with_reducible exact kc_p (wi_p hj_1 nwb c_5 c_6) hq haz hF_8_3 hF_8_4 hF_8_5 hF_8_6
  | with_reducible exact wi_A hj_1 nwb c_5 c_6 e_7
  | omega
set_option maxHeartbeats 60000 in
theorem lf_X7_wind_11 {nv0 : Int32} {nv1 : Int32} {nv2 : Int32} {nv3 : Int32} {nv5 : Int32} {nhh : Nat} {nww : Nat} {nkk : Nat} {ng1 : Nat → Int32} {ng2 : Nat → Int32} {ng3 : Nat → Int32} {ng4 : Nat → Int32} {ng5 : Nat → Int32} {q : Nat} {az : Nat} {fb : Nat → Option Nat} {ad : Nat → Nat} {V : Nat → Nat → Int32} {G : Nat → Nat → Nat → Int32} {k1 : Int32} {j_1 : Nat} {v_7 : Int32} {Vn_8 : Nat → Nat → Int32} {Gn_8 : Nat → Nat → Nat → Int32} {qn_8 : Nat} {zn_8 : Nat} {g_9 : Nat → Int32} (nhb : nhh ≤ 999) (nwb : nww ≤ 6) (nkb : nkk ≤ 6) (hLv : okLv (nrm nv0 nv1 nv2 nv3 nhh nv5 nww nkk ng1 ng2 ng3 ng4 ng5)) (hfb : ∀ i : Nat, i < 24 → fb i = some (ad i)) (hok : ∀ i : Nat, i < 24 → okL (V i)) (hq : q < 24) (haz : az ≤ 24) (hj_1 : j_1 < nww) (c_5 : ¬ (k1 < 0)) (c_6 : k1 ≤ 4) (e_7 : v_7 = ng1 j_1) (hF_8_0 : (∀ i : Nat, i < 24 → okL (Vn_8 i))) (hF_8_1 : qn_8 < 24) (hF_8_2 : zn_8 ≤ 24) (hF_8_3 : nrV (Vn_8 q) (Gn_8 q) = (nrm nv0 nv1 nv2 nv3 nhh nv5 nww nkk ng1 ng2 ng3 ng4 ng5)) (hF_8_4 : (∀ i : Nat, i < 24 → i ≠ q → nrV (Vn_8 i) (Gn_8 i) = nrV (V i) (G i))) (hF_8_5 : qn_8 = (q + 1) % 24) (hF_8_6 : zn_8 = ntN az) (hu_9 : g_9 = upd ng1 j_1 k1) : acX qn_8 zn_8 Vn_8 Gn_8 = kpA (gd_wind (nrm nv0 nv1 nv2 nv3 nhh nv5 nww nkk ng1 ng2 ng3 ng4 ng5) (nI j_1) k1) (nrm nv0 nv1 nv2 nv3 nhh nv5 nww nkk ng1 ng2 ng3 ng4 ng5) az (acX q az V G) := by
  first
  | with_reducible exact wi_l (wi_g2 c_5)
  | with_reducible exact kz_n (wi_g2 c_5)
  | with_reducible exact kc_n (wi_g2 c_5)
  | with_reducible exact wi_a (wi_g2 c_5)
  | with_reducible exact wi_l (wi_g3 c_6)
  | with_reducible exact kz_n (wi_g3 c_6)
  | with_reducible exact kc_n (wi_g3 c_6)
  | with_reducible exact wi_a (wi_g3 c_6)
  | with_reducible exact wi_L hj_1 nwb c_5 c_6 hu_9
  | with_reducible exact kz_p (wi_p hj_1 nwb c_5 c_6) hF_8_6
  | with_reducible exact kc_p (wi_p hj_1 nwb c_5 c_6) hq haz hF_8_3 hF_8_4 hF_8_5 hF_8_6
  | with_reducible exact wi_A hj_1 nwb c_5 c_6 e_7
  | omega
set_option maxHeartbeats 60000 in
theorem lf_X7_wind_12 {nv0 : Int32} {nv1 : Int32} {nv2 : Int32} {nv3 : Int32} {nv5 : Int32} {nhh : Nat} {nww : Nat} {nkk : Nat} {ng1 : Nat → Int32} {ng2 : Nat → Int32} {ng3 : Nat → Int32} {ng4 : Nat → Int32} {ng5 : Nat → Int32} {q : Nat} {az : Nat} {fb : Nat → Option Nat} {ad : Nat → Nat} {V : Nat → Nat → Int32} {G : Nat → Nat → Nat → Int32} {k1 : Int32} {j_1 : Nat} {v_7 : Int32} {Vn_8 : Nat → Nat → Int32} {Gn_8 : Nat → Nat → Nat → Int32} {qn_8 : Nat} {zn_8 : Nat} {g_9 : Nat → Int32} (nhb : nhh ≤ 999) (nwb : nww ≤ 6) (nkb : nkk ≤ 6) (hLv : okLv (nrm nv0 nv1 nv2 nv3 nhh nv5 nww nkk ng1 ng2 ng3 ng4 ng5)) (hfb : ∀ i : Nat, i < 24 → fb i = some (ad i)) (hok : ∀ i : Nat, i < 24 → okL (V i)) (hq : q < 24) (haz : az ≤ 24) (hj_1 : j_1 < nww) (c_5 : ¬ (k1 < 0)) (c_6 : k1 ≤ 4) (e_7 : v_7 = ng1 j_1) (hF_8_0 : (∀ i : Nat, i < 24 → okL (Vn_8 i))) (hF_8_1 : qn_8 < 24) (hF_8_2 : zn_8 ≤ 24) (hF_8_3 : nrV (Vn_8 q) (Gn_8 q) = (nrm nv0 nv1 nv2 nv3 nhh nv5 nww nkk ng1 ng2 ng3 ng4 ng5)) (hF_8_4 : (∀ i : Nat, i < 24 → i ≠ q → nrV (Vn_8 i) (Gn_8 i) = nrV (V i) (G i))) (hF_8_5 : qn_8 = (q + 1) % 24) (hF_8_6 : zn_8 = ntN az) (hu_9 : g_9 = upd ng1 j_1 k1) : v_7 = (a_wind (nrm nv0 nv1 nv2 nv3 nhh nv5 nww nkk ng1 ng2 ng3 ng4 ng5) (nI j_1) k1) := by
  first
  | with_reducible exact wi_l (wi_g2 c_5)
  | with_reducible exact kz_n (wi_g2 c_5)
  | with_reducible exact kc_n (wi_g2 c_5)
  | with_reducible exact wi_a (wi_g2 c_5)
  | with_reducible exact wi_l (wi_g3 c_6)
  | with_reducible exact kz_n (wi_g3 c_6)
  | with_reducible exact kc_n (wi_g3 c_6)
  | with_reducible exact wi_a (wi_g3 c_6)
  | with_reducible exact wi_L hj_1 nwb c_5 c_6 hu_9
  | with_reducible exact kz_p (wi_p hj_1 nwb c_5 c_6) hF_8_6
  | with_reducible exact kc_p (wi_p hj_1 nwb c_5 c_6) hq haz hF_8_3 hF_8_4 hF_8_5 hF_8_6
  | with_reducible exact wi_A hj_1 nwb c_5 c_6 e_7
  | omega
set_option maxHeartbeats 60000 in
theorem lf_X7_wind_13 {nv0 : Int32} {nv1 : Int32} {nv2 : Int32} {nv3 : Int32} {nv5 : Int32} {nhh : Nat} {nww : Nat} {nkk : Nat} {ng1 : Nat → Int32} {ng2 : Nat → Int32} {ng3 : Nat → Int32} {ng4 : Nat → Int32} {ng5 : Nat → Int32} {q : Nat} {az : Nat} {fb : Nat → Option Nat} {ad : Nat → Nat} {V : Nat → Nat → Int32} {k1 : Int32} {j_1 : Nat} (nhb : nhh ≤ 999) (nwb : nww ≤ 6) (nkb : nkk ≤ 6) (hLv : okLv (nrm nv0 nv1 nv2 nv3 nhh nv5 nww nkk ng1 ng2 ng3 ng4 ng5)) (hfb : ∀ i : Nat, i < 24 → fb i = some (ad i)) (hok : ∀ i : Nat, i < 24 → okL (V i)) (hq : q < 24) (haz : az ≤ 24) (hj_1 : j_1 < nww) (c_5 : ¬ (k1 < 0)) (c_6 : ¬ (k1 ≤ 4)) : (nrm nv0 nv1 nv2 nv3 nhh nv5 nww nkk ng1 ng2 ng3 ng4 ng5) = n_wind (nrm nv0 nv1 nv2 nv3 nhh nv5 nww nkk ng1 ng2 ng3 ng4 ng5) (nI j_1) k1 := by
  first
  | with_reducible exact wi_l (wi_g2 c_5)
  | with_reducible exact kz_n (wi_g2 c_5)
  | with_reducible exact kc_n (wi_g2 c_5)
  | with_reducible exact wi_a (wi_g2 c_5)
  | with_reducible exact wi_l (wi_g3 c_6)
  | with_reducible exact kz_n (wi_g3 c_6)
  | with_reducible exact kc_n (wi_g3 c_6)
  | with_reducible exact wi_a (wi_g3 c_6)
  | omega
set_option maxHeartbeats 60000 in
theorem lf_X7_wind_14 {nv0 : Int32} {nv1 : Int32} {nv2 : Int32} {nv3 : Int32} {nv5 : Int32} {nhh : Nat} {nww : Nat} {nkk : Nat} {ng1 : Nat → Int32} {ng2 : Nat → Int32} {ng3 : Nat → Int32} {ng4 : Nat → Int32} {ng5 : Nat → Int32} {q : Nat} {az : Nat} {fb : Nat → Option Nat} {ad : Nat → Nat} {V : Nat → Nat → Int32} {k1 : Int32} {j_1 : Nat} (nhb : nhh ≤ 999) (nwb : nww ≤ 6) (nkb : nkk ≤ 6) (hLv : okLv (nrm nv0 nv1 nv2 nv3 nhh nv5 nww nkk ng1 ng2 ng3 ng4 ng5)) (hfb : ∀ i : Nat, i < 24 → fb i = some (ad i)) (hok : ∀ i : Nat, i < 24 → okL (V i)) (hq : q < 24) (haz : az ≤ 24) (hj_1 : j_1 < nww) (c_5 : ¬ (k1 < 0)) (c_6 : ¬ (k1 ≤ 4)) : az = kpN (gd_wind (nrm nv0 nv1 nv2 nv3 nhh nv5 nww nkk ng1 ng2 ng3 ng4 ng5) (nI j_1) k1) az := by
  first
  | with_reducible exact wi_l (wi_g2 c_5)
  | with_reducible exact kz_n (wi_g2 c_5)
  | with_reducible exact kc_n (wi_g2 c_5)
  | with_reducible exact wi_a (wi_g2 c_5)
  | with_reducible exact wi_l (wi_g3 c_6)
  | with_reducible exact kz_n (wi_g3 c_6)
  | with_reducible exact kc_n (wi_g3 c_6)
  | with_reducible exact wi_a (wi_g3 c_6)
  | omega
set_option maxHeartbeats 60000 in
theorem lf_X7_wind_15 {nv0 : Int32} {nv1 : Int32} {nv2 : Int32} {nv3 : Int32} {nv5 : Int32} {nhh : Nat} {nww : Nat} {nkk : Nat} {ng1 : Nat → Int32} {ng2 : Nat → Int32} {ng3 : Nat → Int32} {ng4 : Nat → Int32} {ng5 : Nat → Int32} {q : Nat} {az : Nat} {fb : Nat → Option Nat} {ad : Nat → Nat} {V : Nat → Nat → Int32} {G : Nat → Nat → Nat → Int32} {k1 : Int32} {j_1 : Nat} (nhb : nhh ≤ 999) (nwb : nww ≤ 6) (nkb : nkk ≤ 6) (hLv : okLv (nrm nv0 nv1 nv2 nv3 nhh nv5 nww nkk ng1 ng2 ng3 ng4 ng5)) (hfb : ∀ i : Nat, i < 24 → fb i = some (ad i)) (hok : ∀ i : Nat, i < 24 → okL (V i)) (hq : q < 24) (haz : az ≤ 24) (hj_1 : j_1 < nww) (c_5 : ¬ (k1 < 0)) (c_6 : ¬ (k1 ≤ 4)) : acX q az V G = kpA (gd_wind (nrm nv0 nv1 nv2 nv3 nhh nv5 nww nkk ng1 ng2 ng3 ng4 ng5) (nI j_1) k1) (nrm nv0 nv1 nv2 nv3 nhh nv5 nww nkk ng1 ng2 ng3 ng4 ng5) az (acX q az V G) := by
  first
  | with_reducible exact wi_l (wi_g2 c_5)
  | with_reducible exact kz_n (wi_g2 c_5)
  | with_reducible exact kc_n (wi_g2 c_5)
  | with_reducible exact wi_a (wi_g2 c_5)
  | with_reducible exact wi_l (wi_g3 c_6)
  | with_reducible exact kz_n (wi_g3 c_6)
  | with_reducible exact kc_n (wi_g3 c_6)
  | with_reducible exact wi_a (wi_g3 c_6)
  | omega
set_option maxHeartbeats 60000 in
theorem lf_X7_wind_16 {nv0 : Int32} {nv1 : Int32} {nv2 : Int32} {nv3 : Int32} {nv5 : Int32} {nhh : Nat} {nww : Nat} {nkk : Nat} {ng1 : Nat → Int32} {ng2 : Nat → Int32} {ng3 : Nat → Int32} {ng4 : Nat → Int32} {ng5 : Nat → Int32} {q : Nat} {az : Nat} {fb : Nat → Option Nat} {ad : Nat → Nat} {V : Nat → Nat → Int32} {k1 : Int32} {j_1 : Nat} (nhb : nhh ≤ 999) (nwb : nww ≤ 6) (nkb : nkk ≤ 6) (hLv : okLv (nrm nv0 nv1 nv2 nv3 nhh nv5 nww nkk ng1 ng2 ng3 ng4 ng5)) (hfb : ∀ i : Nat, i < 24 → fb i = some (ad i)) (hok : ∀ i : Nat, i < 24 → okL (V i)) (hq : q < 24) (haz : az ≤ 24) (hj_1 : j_1 < nww) (c_5 : ¬ (k1 < 0)) (c_6 : ¬ (k1 ≤ 4)) : (-1000001) = (a_wind (nrm nv0 nv1 nv2 nv3 nhh nv5 nww nkk ng1 ng2 ng3 ng4 ng5) (nI j_1) k1) := by
  first
  | with_reducible exact wi_l (wi_g2 c_5)
  | with_reducible exact kz_n (wi_g2 c_5)
  | with_reducible exact kc_n (wi_g2 c_5)
  | with_reducible exact wi_a (wi_g2 c_5)
  | with_reducible exact wi_l (wi_g3 c_6)
  | with_reducible exact kz_n (wi_g3 c_6)
  | with_reducible exact kc_n (wi_g3 c_6)
  | with_reducible exact wi_a (wi_g3 c_6)
  | omega
set_option maxHeartbeats 4000000 in
set_option maxRecDepth 100000 in
theorem r_X7_wind (l : Launch) (dC : Nat → ClassId) (dI : Nat → Nat → Nat) (cI cZ cL cJ : ClassId) (sz : Nat) (x : Nat) (ro : Nat) (ta : Nat) (no : Nat) (ac : Nat) (im : Nat) (tr : Nat) (pl : Nat) (cs : Nat) (ak : Nat) (xf : Int32) (xg : Int32) (nv0 : Int32) (nv1 : Int32) (nv2 : Int32) (nv3 : Int32) (nv5 : Int32) (nhh : Nat) (nww : Nat) (nkk : Nat) (nb1 : Nat) (nb2 : Nat) (nb3 : Nat) (nb4 : Nat) (nb5 : Nat) (ng1 : Nat → Int32) (ng2 : Nat → Int32) (ng3 : Nat → Int32) (ng4 : Nat → Int32) (ng5 : Nat → Int32) (be : Nat) (q : Nat) (az : Nat) (fb : Nat → Option Nat) (ad : Nat → Nat) (bd : Nat → Nat → Nat) (V : Nat → Nat → Int32) (G : Nat → Nat → Nat → Int32) (k0 : Int32) (k1 : Int32) (nhb : nhh ≤ 999) (nwb : nww ≤ 6) (nkb : nkk ≤ 6) (hLv : okLv (nrm nv0 nv1 nv2 nv3 nhh nv5 nww nkk ng1 ng2 ng3 ng4 ng5)) (hfb : ∀ i : Nat, i < 24 → fb i = some (ad i)) (hok : ∀ i : Nat, i < 24 → okL (V i)) (hq : q < 24) (haz : az ≤ 24) : Met l yX7_wind wsX7_wind ({ frames := 3, cells := 0, slots := 0, locals := 122 }) (va_Pc [.ref x, .int k0, .int k1] (fun U => U.heap.size = sz ∧ va_P (dC, dI) vwCl (([(xo_7_rrrrrrrrrii x ro ta no ac im tr pl cs ak xf xg), (xo_3_iiiiiiiirrrrr no nv0 nv1 nv2 nv3 (nI nhh) nv5 (nI nww) (nI nkk) nb1 nb2 nb3 nb4 nb5), (xI nb1 cI 6 ng1), (xI nb2 cI 6 ng2), (xI nb3 cI 6 ng3), (xI nb4 cI 6 ng4), (xI nb5 cI 6 ng5), (xo_0_rii ac be (nI q) (nI az)), (xJ be cL 24 fb)] : va_W) ++ lvs cI 24 ad bd V G) U.heap ∧ va_K (dC, dI) vwCl [(cI, .int), (cZ, .boolean), (cL, .object RX3), (cJ, .array .int)] U ∧ va_D (fun _ => True) (([(xo_7_rrrrrrrrrii x ro ta no ac im tr pl cs ak xf xg), (xo_3_iiiiiiiirrrrr no nv0 nv1 nv2 nv3 (nI nhh) nv5 (nI nww) (nI nkk) nb1 nb2 nb3 nb4 nb5), (xI nb1 cI 6 ng1), (xI nb2 cI 6 ng2), (xI nb3 cI 6 ng3), (xI nb4 cI 6 ng4), (xI nb5 cI 6 ng5), (xo_0_rii ac be (nI q) (nI az)), (xJ be cL 24 fb)] : va_W) ++ lvs cI 24 ad bd V G))) (va_Qi (fun r (_ : Unit) => r = (a_wind (nrm nv0 nv1 nv2 nv3 nhh nv5 nww nkk ng1 ng2 ng3 ng4 ng5) k0 k1)) (fun (_ : Unit) t => ∃ (Vn : Nat → Nat → Int32) (Gn : Nat → Nat → Nat → Int32) (nv0n : Int32) (nv1n : Int32) (nv2n : Int32) (nv3n : Int32) (nv5n : Int32) (ng1n : Nat → Int32) (ng2n : Nat → Int32) (ng3n : Nat → Int32) (ng4n : Nat → Int32) (ng5n : Nat → Int32) (nhn : Nat) (nwn : Nat) (nkn : Nat) (qn : Nat) (azn : Nat), va_P (dC, dI) vwCl (([(xo_7_rrrrrrrrrii x ro ta no ac im tr pl cs ak xf xg), (xo_3_iiiiiiiirrrrr no nv0n nv1n nv2n nv3n (nI nhn) nv5n (nI nwn) (nI nkn) nb1 nb2 nb3 nb4 nb5), (xI nb1 cI 6 ng1n), (xI nb2 cI 6 ng2n), (xI nb3 cI 6 ng3n), (xI nb4 cI 6 ng4n), (xI nb5 cI 6 ng5n), (xo_0_rii ac be (nI qn) (nI azn)), (xJ be cL 24 fb)] : va_W) ++ lvs cI 24 ad bd Vn Gn) t.heap ∧ va_D (va_A (([(xo_7_rrrrrrrrrii x ro ta no ac im tr pl cs ak xf xg), (xo_3_iiiiiiiirrrrr no nv0 nv1 nv2 nv3 (nI nhh) nv5 (nI nww) (nI nkk) nb1 nb2 nb3 nb4 nb5), (xI nb1 cI 6 ng1), (xI nb2 cI 6 ng2), (xI nb3 cI 6 ng3), (xI nb4 cI 6 ng4), (xI nb5 cI 6 ng5), (xo_0_rii ac be (nI q) (nI az)), (xJ be cL 24 fb)] : va_W) ++ lvs cI 24 ad bd V G) sz) (([(xo_7_rrrrrrrrrii x ro ta no ac im tr pl cs ak xf xg), (xo_3_iiiiiiiirrrrr no nv0n nv1n nv2n nv3n (nI nhn) nv5n (nI nwn) (nI nkn) nb1 nb2 nb3 nb4 nb5), (xI nb1 cI 6 ng1n), (xI nb2 cI 6 ng2n), (xI nb3 cI 6 ng3n), (xI nb4 cI 6 ng4n), (xI nb5 cI 6 ng5n), (xo_0_rii ac be (nI qn) (nI azn)), (xJ be cL 24 fb)] : va_W) ++ lvs cI 24 ad bd Vn Gn) ∧ (∀ i : Nat, i < 24 → okL (Vn i)) ∧ qn < 24 ∧ azn ≤ 24 ∧ nhn ≤ 999 ∧ nwn ≤ 6 ∧ nkn ≤ 6 ∧ (nrm nv0n nv1n nv2n nv3n nhn nv5n nwn nkn ng1n ng2n ng3n ng4n ng5n) = n_wind (nrm nv0 nv1 nv2 nv3 nhh nv5 nww nkk ng1 ng2 ng3 ng4 ng5) k0 k1 ∧ azn = kpN (gd_wind (nrm nv0 nv1 nv2 nv3 nhh nv5 nww nkk ng1 ng2 ng3 ng4 ng5) k0 k1) az ∧ acX qn azn Vn Gn = kpA (gd_wind (nrm nv0 nv1 nv2 nv3 nhh nv5 nww nkk ng1 ng2 ng3 ng4 ng5) k0 k1) (nrm nv0 nv1 nv2 nv3 nhh nv5 nww nkk ng1 ng2 ng3 ng4 ng5) az (acX q az V G)) (va_A (([(xo_7_rrrrrrrrrii x ro ta no ac im tr pl cs ak xf xg), (xo_3_iiiiiiiirrrrr no nv0 nv1 nv2 nv3 (nI nhh) nv5 (nI nww) (nI nkk) nb1 nb2 nb3 nb4 nb5), (xI nb1 cI 6 ng1), (xI nb2 cI 6 ng2), (xI nb3 cI 6 ng3), (xI nb4 cI 6 ng4), (xI nb5 cI 6 ng5), (xo_0_rii ac be (nI q) (nI az)), (xJ be cL 24 fb)] : va_W) ++ lvs cI 24 ad bd V G) sz)) 0 0 (va_A (([(xo_7_rrrrrrrrrii x ro ta no ac im tr pl cs ak xf xg), (xo_3_iiiiiiiirrrrr no nv0 nv1 nv2 nv3 (nI nhh) nv5 (nI nww) (nI nkk) nb1 nb2 nb3 nb4 nb5), (xI nb1 cI 6 ng1), (xI nb2 cI 6 ng2), (xI nb3 cI 6 ng3), (xI nb4 cI 6 ng4), (xI nb5 cI 6 ng5), (xo_0_rii ac be (nI q) (nI az)), (xJ be cL 24 fb)] : va_W) ++ lvs cI 24 ad bd V G) sz) := by
  refine Met.ofW (cc := cX7_wind) (maxL := 4) (ret := (some .int)) (by decide) rfl ?_
  intro p e s m args below meth c s₁ B hml hv
  obtain ⟨rfl, hsz, hP, hK, hD0⟩ := hv
  have hx := B.exec
  have hb := B.bytes
  have hr := B.returns
  have hts := atoms_spec (ws := wsX7_wind) B.pre
  have hown : s.vm.findClass RX7 = some m.cls := findClass_of_methodNamed B.named
  have hlocks := B.notSynchronized
  subst hsz
  have hD := hD0.self (sz := s.heap.size)
  generalize hAe : va_A (([(xo_7_rrrrrrrrrii x ro ta no ac im tr pl cs ak xf xg), (xo_3_iiiiiiiirrrrr no nv0 nv1 nv2 nv3 (nI nhh) nv5 (nI nww) (nI nkk) nb1 nb2 nb3 nb4 nb5), (xI nb1 cI 6 ng1), (xI nb2 cI 6 ng2), (xI nb3 cI 6 ng3), (xI nb4 cI 6 ng4), (xI nb5 cI 6 ng5), (xo_0_rii ac be (nI q) (nI az)), (xJ be cL 24 fb)] : va_W) ++ lvs cI 24 ad bd V G) s.heap.size = A at hD ⊢
  have hA : ∀ q : Nat, s.heap.size ≤ q → A q := fun q h => by rw [← hAe]; exact Or.inr h
  have hS : va_S A s.heap s.heap [] := va_S.rf
  have hP : va_P (dC, dI) vwCl (([(xo_7_rrrrrrrrrii x ro ta no ac im tr pl cs ak xf xg), (xo_3_iiiiiiiirrrrr no nv0 nv1 nv2 nv3 (nI nhh) nv5 (nI nww) (nI nkk) nb1 nb2 nb3 nb4 nb5), (xI nb1 cI 6 ng1), (xI nb2 cI 6 ng2), (xI nb3 cI 6 ng3), (xI nb4 cI 6 ng4), (xI nb5 cI 6 ng5), (xo_0_rii ac be (nI q) (nI az)), (xJ be cL 24 fb)] : va_W) ++ lvs cI 24 ad bd V G) s.heap := hP
  have hl := lv_entry ([.ref x, .int k0, .int k1]) (n := 4) (Nat.le_of_ble_eq_true rfl)
  rw [lg_entry_eq]
  generalize (lg_sl ([.ref x, .int k0, .int k1]) ++ List.replicate (4 - (lg_sl ([.ref x, .int k0, .int k1])).length) Slot.unset).toArray = ls at hl ⊢
  have hl : lv_has ls 4 [(0, .ref x), (1, .int k0), (2, .int k1)] := hl
  refine lv_aload_n hx hb dX7_wind_0 rfl (lv_at hl 0 rfl) ?_
  refine va_get (D := (dC, dI)) (ci := 7) (v := .ref no) (C := RX7) (T := TX7) (N := 11) hx hb hts i_X7_wind_X7 hown hK hP 0 rfl rfl 2 (by decide) (hts _ mx_X7_wind_1) (fun _ h9 => h9) rfl dX7_wind_1 ?_
  refine lv_iload_n hx hb dX7_wind_4 rfl (lv_at hl 1 rfl) ?_
  have hPc_1 := hP.sub (ws' := [(xo_3_iiiiiiiirrrrr no nv0 nv1 nv2 nv3 (nI nhh) nv5 (nI nww) (nI nkk) nb1 nb2 nb3 nb4 nb5), (xI nb1 cI 6 ng1), (xI nb2 cI 6 ng2), (xI nb3 cI 6 ng3), (xI nb4 cI 6 ng4), (xI nb5 cI 6 ng5)]) [1, 2, 3, 4, 5, 6] rfl
  refine vp_callSi (W.runV (As := [.int k0]) (rest := []) ⟨hx, hb, hml, hown, hts⟩ (r_X3_hasWind l dC dI cI cZ cL cJ no nv0 nv1 nv2 nv3 nv5 nhh nww nkk nb1 nb2 nb3 nb4 nb5 ng1 ng2 ng3 ng4 ng5 k0 (by omega) (by omega) (by omega)) (cwV 1 hts gX7_wind_X3_hasWind rfl rfl rfl (by decide +kernel) ⟨Nat.le_of_ble_eq_true rfl, Nat.le_of_ble_eq_true rfl⟩) (pvP 3 1 hK hP rfl rfl hPc_1) rfl rfl hl.1 rfl (lv_room (Nat.le_of_ble_eq_true rfl)) dX7_wind_5 ⟨Nat.le_of_ble_eq_true rfl, Nat.le_of_ble_eq_true rfl⟩) (fun r_1 h_1 => ?_)
  rcases h_1 with ⟨h_1, f_1_0_0⟩ | ⟨h_1, f_1_1_0⟩
  · subst h_1
    refine lv_if_eq (tgt := 20) hx hb dX7_wind_8 (by decide) (fun _ => ?_) (fun c_ => absurd (by decide) c_)
    refine lv_ldc (own := RX7) (v := (-1000001)) hx hb hown (hts _ mx_X7_wind_2) dX7_wind_20 ?_
    have hX9 := cut2P (cx := [(xo_7_rrrrrrrrrii x ro ta no ac im tr pl cs ak xf xg), (xo_3_iiiiiiiirrrrr no nv0 nv1 nv2 nv3 (nI nhh) nv5 (nI nww) (nI nkk) nb1 nb2 nb3 nb4 nb5), (xI nb1 cI 6 ng1), (xI nb2 cI 6 ng2), (xI nb3 cI 6 ng3), (xI nb4 cI 6 ng4), (xI nb5 cI 6 ng5), (xo_0_rii ac be (nI q) (nI az)), (xJ be cL 24 fb)]) hP hD [0, 1, 2, 3, 4, 5, 6, 7, 8] (by decide +kernel) rfl
    exact W.iret (v := (-1000001)) hx hb hr (fun t ht hW => ⟨⟨(-1000001), (), rfl, (lf_X7_wind_4 nhb nwb nkb hLv hfb hok hq haz f_1_0_0), ⟨V, G, nv0, nv1, nv2, nv3, nv5, ng1, ng2, ng3, ng4, ng5, nhh, nww, nkk, q, az, va_Ht ht hX9.1, hX9.2, hok, (by omega), (by omega), (by omega), (by omega), (by omega), (lf_X7_wind_1 nhb nwb nkb hLv hfb hok hq haz f_1_0_0), (lf_X7_wind_2 nhb nwb nkb hLv hfb hok hq haz f_1_0_0), (lf_X7_wind_3 nhb nwb nkb hLv hfb hok hq haz f_1_0_0)⟩⟩, hS.F ht⟩) hS.2.2 dX7_wind_22
  · subst h_1
    obtain ⟨j_1, hj_1, rfl⟩ := vp_in_of f_1_1_0 (by omega)
    refine lv_if_eq (tgt := 20) hx hb dX7_wind_8 (by decide) (fun c_ => absurd c_ (by decide)) (fun _ => ?_)
    refine lv_iload_n hx hb dX7_wind_11 rfl (lv_at hl 2 rfl) ?_
    refine lv_if_lt (tgt := 20) hx hb dX7_wind_12 (by decide) (fun c_5 => ?_) (fun c_5 => ?_)
    · skip
      refine lv_ldc (own := RX7) (v := (-1000001)) hx hb hown (hts _ mx_X7_wind_2) dX7_wind_20 ?_
      have hX9 := cut2P (cx := [(xo_7_rrrrrrrrrii x ro ta no ac im tr pl cs ak xf xg), (xo_3_iiiiiiiirrrrr no nv0 nv1 nv2 nv3 (nI nhh) nv5 (nI nww) (nI nkk) nb1 nb2 nb3 nb4 nb5), (xI nb1 cI 6 ng1), (xI nb2 cI 6 ng2), (xI nb3 cI 6 ng3), (xI nb4 cI 6 ng4), (xI nb5 cI 6 ng5), (xo_0_rii ac be (nI q) (nI az)), (xJ be cL 24 fb)]) hP hD [0, 1, 2, 3, 4, 5, 6, 7, 8] (by decide +kernel) rfl
      exact W.iret (v := (-1000001)) hx hb hr (fun t ht hW => ⟨⟨(-1000001), (), rfl, (lf_X7_wind_8 nhb nwb nkb hLv hfb hok hq haz hj_1 c_5), ⟨V, G, nv0, nv1, nv2, nv3, nv5, ng1, ng2, ng3, ng4, ng5, nhh, nww, nkk, q, az, va_Ht ht hX9.1, hX9.2, hok, (by omega), (by omega), (by omega), (by omega), (by omega), (lf_X7_wind_5 nhb nwb nkb hLv hfb hok hq haz hj_1 c_5), (lf_X7_wind_6 nhb nwb nkb hLv hfb hok hq haz hj_1 c_5), (lf_X7_wind_7 nhb nwb nkb hLv hfb hok hq haz hj_1 c_5)⟩⟩, hS.F ht⟩) hS.2.2 dX7_wind_22
    · skip
      refine lv_iload_n hx hb dX7_wind_15 rfl (lv_at hl 2 rfl) ?_
      refine lv_iconst (v := 4) hx hb dX7_wind_16 (by decide) ?_
      refine lv_icmp_le (tgt := 23) hx hb dX7_wind_17 (by decide) (fun c_6 => ?_) (fun c_6 => ?_)
      · skip
        refine lv_aload_n hx hb dX7_wind_23 rfl (lv_at hl 0 rfl) ?_
        refine va_get (D := (dC, dI)) (ci := 7) (v := .ref no) (C := RX7) (T := TX7) (N := 11) hx hb hts i_X7_wind_X7 hown hK hP 0 rfl rfl 2 (by decide) (hts _ mx_X7_wind_1) (fun _ h9 => h9) rfl dX7_wind_24 ?_
        refine va_get (D := (dC, dI)) (ci := 3) (v := .ref nb1) (C := RX3) (T := TX3) (N := 13) hx hb hts i_X7_wind_X3 hown hK hP 1 rfl rfl 8 (by decide) (hts _ mx_X7_wind_3) (fun _ h9 => h9) rfl dX7_wind_27 ?_
        refine lv_iload_n hx hb dX7_wind_30 rfl (lv_at hl 1 rfl) ?_
        refine va_iald hx hb hK hP 2 0 rfl rfl (vp_in_nI (by omega) (by omega)) dX7_wind_31 ?_
        refine lv_topi (fun v_7 e_7 => ?_)
        have e_7 : v_7 = ng1 j_1 := e_7.trans (congrArg ng1 (nI_clamp (by omega)))
        refine lv_istore_n (lv' := [(3, .int v_7), (0, .ref x), (1, .int (nI j_1)), (2, .int k1)]) hx hb dX7_wind_32 rfl hl (by decide) rfl (fun ls hl => ?_)
        refine lv_aload_n hx hb dX7_wind_33 rfl (lv_at hl 1 rfl) ?_
        refine va_get (D := (dC, dI)) (ci := 7) (v := .ref ac) (C := RX7) (T := TX7) (N := 11) hx hb hts i_X7_wind_X7 hown hK hP 0 rfl rfl 3 (by decide) (hts _ mx_X7_wind_4) (fun _ h9 => h9) rfl dX7_wind_34 ?_
        refine lv_aload_n hx hb dX7_wind_37 rfl (lv_at hl 1 rfl) ?_
        refine va_get (D := (dC, dI)) (ci := 7) (v := .ref no) (C := RX7) (T := TX7) (N := 11) hx hb hts i_X7_wind_X7 hown hK hP 0 rfl rfl 2 (by decide) (hts _ mx_X7_wind_1) (fun _ h9 => h9) rfl dX7_wind_38 ?_
        have hc_8 := cutP (cx := [(xo_0_rii ac be (nI q) (nI az)), (xJ be cL 24 fb), (xo_3_iiiiiiiirrrrr no nv0 nv1 nv2 nv3 (nI nhh) nv5 (nI nww) (nI nkk) nb1 nb2 nb3 nb4 nb5), (xI nb1 cI 6 ng1), (xI nb2 cI 6 ng2), (xI nb3 cI 6 ng3), (xI nb4 cI 6 ng4), (xI nb5 cI 6 ng5)]) hP hD hS hA [7, 8, 1, 2, 3, 4, 5, 6] (by decide +kernel) rfl
        refine va_callv (va_runV (As := [.ref no]) (rest := []) ⟨hx, hb, hml, hown, hts⟩ (r_X0_keep l dC dI cI cZ cL cJ s.heap.size ac be q az fb ad bd V G no nv0 nv1 nv2 nv3 nv5 nhh nww nkk nb1 nb2 nb3 nb4 nb5 ng1 ng2 ng3 ng4 ng5 (hfb) (hok) (by omega) (by omega) (by omega) (by omega) (by omega)) (cwV 1 hts gX7_wind_X0_keep rfl rfl rfl (by decide +kernel) ⟨Nat.le_of_ble_eq_true rfl, Nat.le_of_ble_eq_true rfl⟩) (pvW 0 7 hK hP rfl rfl hc_8) rfl rfl hl.1 rfl (lv_room (Nat.le_of_ble_eq_true rfl)) dX7_wind_41 ⟨Nat.le_of_ble_eq_true rfl, Nat.le_of_ble_eq_true rfl⟩) hS (fun q _ h => hc_8.2.2 q h) hc_8.2.2 (fun u_8 t_8 H1 locs ht hvm h_8 hB hz1 hk1 hS => ?_)
        refine xl_4_9 hB (fun Vn_8 Gn_8 qn_8 zn_8 hP1 hD1 hF_8_0 hF_8_1 hF_8_2 hF_8_3 hF_8_4 hF_8_5 hF_8_6 => ?_)
        clear hB
        rw [ht] at hP1
        obtain ⟨hP, hD⟩ := va_joinP (wr := [(xo_7_rrrrrrrrrii x ro ta no ac im tr pl cs ak xf xg)]) (rx := [(xo_0_rii ac be (nI qn_8) (nI zn_8)), (xJ be cL 24 fb), (xo_3_iiiiiiiirrrrr no nv0 nv1 nv2 nv3 (nI nhh) nv5 (nI nww) (nI nkk) nb1 nb2 nb3 nb4 nb5), (xI nb1 cI 6 ng1), (xI nb2 cI 6 ng2), (xI nb3 cI 6 ng3), (xI nb4 cI 6 ng4), (xI nb5 cI 6 ng5)]) (pl1 := lvs cI 24 ad bd Vn_8 Gn_8) hP hD [7, 8, 1, 2, 3, 4, 5, 6] [0] rfl rfl (by decide +kernel) (by decide +kernel) hk1 hc_8.2.2 hP1 hD1
        generalize H1 = H at hP hS ⊢
        have hP : va_P (dC, dI) vwCl (([(xo_7_rrrrrrrrrii x ro ta no ac im tr pl cs ak xf xg), (xo_0_rii ac be (nI qn_8) (nI zn_8)), (xJ be cL 24 fb), (xo_3_iiiiiiiirrrrr no nv0 nv1 nv2 nv3 (nI nhh) nv5 (nI nww) (nI nkk) nb1 nb2 nb3 nb4 nb5), (xI nb1 cI 6 ng1), (xI nb2 cI 6 ng2), (xI nb3 cI 6 ng3), (xI nb4 cI 6 ng4), (xI nb5 cI 6 ng5)] : va_W) ++ lvs cI 24 ad bd Vn_8 Gn_8) H := hP
        have hD := dto hP hD
        refine lv_aload_n hx hb dX7_wind_44 rfl (lv_at hl 1 rfl) ?_
        refine va_get (D := (dC, dI)) (ci := 7) (v := .ref no) (C := RX7) (T := TX7) (N := 11) hx hb hts i_X7_wind_X7 hown hK hP 0 rfl rfl 2 (by decide) (hts _ mx_X7_wind_1) (fun _ h9 => h9) rfl dX7_wind_45 ?_
        refine va_get (D := (dC, dI)) (ci := 3) (v := .ref nb1) (C := RX3) (T := TX3) (N := 13) hx hb hts i_X7_wind_X3 hown hK hP 3 rfl rfl 8 (by decide) (hts _ mx_X7_wind_3) (fun _ h9 => h9) rfl dX7_wind_48 ?_
        refine lv_iload_n hx hb dX7_wind_51 rfl (lv_at hl 2 rfl) ?_
        refine lv_iload_n hx hb dX7_wind_52 rfl (lv_at hl 3 rfl) ?_
        refine va_iast hx hb hK hP hD hS 4 0 rfl rfl (vp_in_nI (by omega) (by omega)) dX7_wind_53 (fun H locs hP hD hS => ?_)
        generalize hg_9 : upd ng1 ((nI j_1) : Int32).toNatClampNeg k1 = g_9 at hP hD
        have hu_9 : g_9 = upd ng1 j_1 k1 := (by rw [← hg_9, nI_clamp (by omega)])
        have hP : va_P (dC, dI) vwCl (([(xo_7_rrrrrrrrrii x ro ta no ac im tr pl cs ak xf xg), (xo_0_rii ac be (nI qn_8) (nI zn_8)), (xJ be cL 24 fb), (xo_3_iiiiiiiirrrrr no nv0 nv1 nv2 nv3 (nI nhh) nv5 (nI nww) (nI nkk) nb1 nb2 nb3 nb4 nb5), (xI nb1 cI 6 g_9), (xI nb2 cI 6 ng2), (xI nb3 cI 6 ng3), (xI nb4 cI 6 ng4), (xI nb5 cI 6 ng5)] : va_W) ++ lvs cI 24 ad bd Vn_8 Gn_8) H := hP
        have hD := dto hP hD
        refine lv_iload_n hx hb dX7_wind_54 rfl (lv_at hl 0 rfl) ?_
        have hX9 := cut2P (cx := [(xo_7_rrrrrrrrrii x ro ta no ac im tr pl cs ak xf xg), (xo_3_iiiiiiiirrrrr no nv0 nv1 nv2 nv3 (nI nhh) nv5 (nI nww) (nI nkk) nb1 nb2 nb3 nb4 nb5), (xI nb1 cI 6 g_9), (xI nb2 cI 6 ng2), (xI nb3 cI 6 ng3), (xI nb4 cI 6 ng4), (xI nb5 cI 6 ng5), (xo_0_rii ac be (nI qn_8) (nI zn_8)), (xJ be cL 24 fb)]) hP hD [0, 3, 4, 5, 6, 7, 8, 1, 2] (by decide +kernel) rfl
        exact W.iret (v := v_7) hx hb hr (fun t ht hW => ⟨⟨v_7, (), rfl, (lf_X7_wind_12 nhb nwb nkb hLv hfb hok hq haz hj_1 c_5 c_6 e_7 hF_8_0 hF_8_1 hF_8_2 hF_8_3 hF_8_4 hF_8_5 hF_8_6 hu_9), ⟨Vn_8, Gn_8, nv0, nv1, nv2, nv3, nv5, g_9, ng2, ng3, ng4, ng5, nhh, nww, nkk, qn_8, zn_8, va_Ht ht hX9.1, hX9.2, hF_8_0, (by omega), (by omega), (by omega), (by omega), (by omega), (lf_X7_wind_9 nhb nwb nkb hLv hfb hok hq haz hj_1 c_5 c_6 e_7 hF_8_0 hF_8_1 hF_8_2 hF_8_3 hF_8_4 hF_8_5 hF_8_6 hu_9), (lf_X7_wind_10 nhb nwb nkb hLv hfb hok hq haz hj_1 c_5 c_6 e_7 hF_8_0 hF_8_1 hF_8_2 hF_8_3 hF_8_4 hF_8_5 hF_8_6 hu_9), (lf_X7_wind_11 nhb nwb nkb hLv hfb hok hq haz hj_1 c_5 c_6 e_7 hF_8_0 hF_8_1 hF_8_2 hF_8_3 hF_8_4 hF_8_5 hF_8_6 hu_9)⟩⟩, hS.F ht⟩) hS.2.2 dX7_wind_55
      · skip
        refine lv_ldc (own := RX7) (v := (-1000001)) hx hb hown (hts _ mx_X7_wind_2) dX7_wind_20 ?_
        have hX9 := cut2P (cx := [(xo_7_rrrrrrrrrii x ro ta no ac im tr pl cs ak xf xg), (xo_3_iiiiiiiirrrrr no nv0 nv1 nv2 nv3 (nI nhh) nv5 (nI nww) (nI nkk) nb1 nb2 nb3 nb4 nb5), (xI nb1 cI 6 ng1), (xI nb2 cI 6 ng2), (xI nb3 cI 6 ng3), (xI nb4 cI 6 ng4), (xI nb5 cI 6 ng5), (xo_0_rii ac be (nI q) (nI az)), (xJ be cL 24 fb)]) hP hD [0, 1, 2, 3, 4, 5, 6, 7, 8] (by decide +kernel) rfl
        exact W.iret (v := (-1000001)) hx hb hr (fun t ht hW => ⟨⟨(-1000001), (), rfl, (lf_X7_wind_16 nhb nwb nkb hLv hfb hok hq haz hj_1 c_5 c_6), ⟨V, G, nv0, nv1, nv2, nv3, nv5, ng1, ng2, ng3, ng4, ng5, nhh, nww, nkk, q, az, va_Ht ht hX9.1, hX9.2, hok, (by omega), (by omega), (by omega), (by omega), (by omega), (lf_X7_wind_13 nhb nwb nkb hLv hfb hok hq haz hj_1 c_5 c_6), (lf_X7_wind_14 nhb nwb nkb hLv hfb hok hq haz hj_1 c_5 c_6), (lf_X7_wind_15 nhb nwb nkb hLv hfb hok hq haz hj_1 c_5 c_6)⟩⟩, hS.F ht⟩) hS.2.2 dX7_wind_22
