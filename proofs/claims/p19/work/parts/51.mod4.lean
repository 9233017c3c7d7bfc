theorem lf_X8_share_1 {mt : Int32} {ma : Nat} {fs : Nat → Int32} {w9 : Nat} {k9 : Nat} {h9 : Nat} {a0 : Int32} {a1 : Int32} (hM : okM fs w9 k9 h9) (hT : ¬ mt = 0 → 1 ≤ k9) (h999 : h9 ≤ 999) (hT0 : mt = 0 → fs 0 = 0 ∧ ma = 0) (f_1_0_0 : ¬ sB (nI k9) a0) : (-1000001) = (a_shr (m38 fs) a0 a1) := by
  have h6 := hM.2.2.2.2.1
  first
  | exact shM_n1 hM.2.1 f_1_0_0
  | exact shr_n (Or.inr q_5)
  | exact shM_z hM hj_1 q_5 hz_8_0 hz_8_1 f_9_0_0
  | exact shM_e hM hj_1 q_5 hz_8_0 hz_8_1 f_9_1_0 hz_12_1 hz_12_0 hz_12_2 haf_0 e_95 e_96 e_97 (if_neg (i_nlt.mpr c_98)) e_99
  | exact shM_e hM hj_1 q_5 hz_8_0 hz_8_1 f_9_1_0 hz_12_1 hz_12_0 hz_12_2 haf_0 e_95 e_96 e_97 (if_pos (i_nle.mp c_98)) e_100
theorem lf_X8_share_2 {mt : Int32} {ma : Nat} {fs : Nat → Int32} {w9 : Nat} {k9 : Nat} {h9 : Nat} {a1 : Int32} {j_1 : Nat} (hM : okM fs w9 k9 h9) (hT : ¬ mt = 0 → 1 ≤ k9) (h999 : h9 ≤ 999) (hT0 : mt = 0 → fs 0 = 0 ∧ ma = 0) (hj_1 : j_1 < k9) (hkn1 : 1 ≤ k9) (hw1 : 1 ≤ w9) (h01 : ¬ fs 0 = 0) (f_5_0_0 : ((a1).toInt64 < 0 ∨ 999 < (a1).toInt64)) (q_5 : (a1 < 0 ∨ 999 < a1)) : (-1000001) = (a_shr (m38 fs) (nI j_1) a1) := by
  have h6 := hM.2.2.2.2.1
  first
  | exact shM_n1 hM.2.1 f_1_0_0
  | exact shr_n (Or.inr q_5)
  | exact shM_z hM hj_1 q_5 hz_8_0 hz_8_1 f_9_0_0
  | exact shM_e hM hj_1 q_5 hz_8_0 hz_8_1 f_9_1_0 hz_12_1 hz_12_0 hz_12_2 haf_0 e_95 e_96 e_97 (if_neg (i_nlt.mpr c_98)) e_99
  | exact shM_e hM hj_1 q_5 hz_8_0 hz_8_1 f_9_1_0 hz_12_1 hz_12_0 hz_12_2 haf_0 e_95 e_96 e_97 (if_pos (i_nle.mp c_98)) e_100
theorem lf_X8_share_3 {mt : Int32} {ma : Nat} {fs : Nat → Int32} {w9 : Nat} {k9 : Nat} {h9 : Nat} {j_1 : Nat} {j_5 : Nat} {j_8 : Nat} (hM : okM fs w9 k9 h9) (hT : ¬ mt = 0 → 1 ≤ k9) (h999 : h9 ≤ 999) (hT0 : mt = 0 → fs 0 = 0 ∧ ma = 0) (hj_1 : j_1 < k9) (hkn1 : 1 ≤ k9) (hw1 : 1 ≤ w9) (h01 : ¬ fs 0 = 0) (f_5_1_0 : (¬ (((nI j_5)).toInt64 < 0 ∨ 999 < ((nI j_5)).toInt64))) (q_5 : ¬ ((nI j_5) < 0 ∨ 999 < (nI j_5))) (hj_5 : j_5 ≤ 999) (hz_8_0 : j_8 ≤ 63) (hz_8_1 : nI j_8 = thR (fun s => fs (26 + s)) 0 k9) (f_9_0_0 : ¬ hasB (nI j_8) (nI j_1)) : 0 = (a_shr (m38 fs) (nI j_1) (nI j_5)) := by
  have h6 := hM.2.2.2.2.1
  first
  | exact shM_n1 hM.2.1 f_1_0_0
  | exact shr_n (Or.inr q_5)
  | exact shM_z hM hj_1 q_5 hz_8_0 hz_8_1 f_9_0_0
  | exact shM_e hM hj_1 q_5 hz_8_0 hz_8_1 f_9_1_0 hz_12_1 hz_12_0 hz_12_2 haf_0 e_95 e_96 e_97 (if_neg (i_nlt.mpr c_98)) e_99
  | exact shM_e hM hj_1 q_5 hz_8_0 hz_8_1 f_9_1_0 hz_12_1 hz_12_0 hz_12_2 haf_0 e_95 e_96 e_97 (if_pos (i_nle.mp c_98)) e_100
theorem lf_X8_share_4 {mt : Int32} {ma : Nat} {fs : Nat → Int32} {w9 : Nat} {k9 : Nat} {h9 : Nat} {j_1 : Nat} {j_5 : Nat} {j_8 : Nat} {j_12 : Nat} {w_38 : Int32} {w_39 : Int32} {ii : Nat} {v_71 : Int32} {v_74 : Int32} (hM : okM fs w9 k9 h9) (hT : ¬ mt = 0 → 1 ≤ k9) (h999 : h9 ≤ 999) (hT0 : mt = 0 → fs 0 = 0 ∧ ma = 0) (hj_1 : j_1 < k9) (hkn1 : 1 ≤ k9) (hw1 : 1 ≤ w9) (h01 : ¬ fs 0 = 0) (f_5_1_0 : (¬ (((nI j_5)).toInt64 < 0 ∨ 999 < ((nI j_5)).toInt64))) (q_5 : ¬ ((nI j_5) < 0 ∨ 999 < (nI j_5))) (hj_5 : j_5 ≤ 999) (hz_8_0 : j_8 ≤ 63) (hz_8_1 : nI j_8 = thR (fun s => fs (26 + s)) 0 k9) (f_9_1_0 : hasB (nI j_8) (nI j_1)) (hz_12_0 : j_12 ≤ 120) (hz_12_1 : (∀ s : Nat, s < k9 → hasB (nI j_8) (nI s) → 1 ≤ j_12)) (hz_12_2 : nI j_12 = ldR (fun s => fs (32 + s)) (nI j_8) k9) (hii : ii < k9) (haf_0 : (shF (m38 fs) (nI j_5) (nI j_1) (nI j_12) ii = (w_39, w_38))) (f_69_0_0 : ¬ hasB (nI j_8) (nI ii)) (e_71 : v_71 = (w_39 - 0)) (f_72_0_0 : ¬ hasB (nI j_8) (nI ii)) (e_74 : v_74 = (w_38 + 0)) : shF (m38 fs) (nI j_5) (nI j_1) (nI j_12) (ii + 1) = (v_71, v_74) := by
  have h6 := hM.2.2.2.2.1
  first
  | exact absurd f_72_1_0 f_69_0_0
  | exact absurd f_69_1_0 f_85_0_0
  | exact shM_n hM hii hz_8_0 hz_8_1 f_69_0_0 haf_0 e_71 e_74
  | exact shM_y hM hii hz_8_0 hz_8_1 f_69_1_0 haf_0 e_81 e_82 e_83 e_84 (lt_no (by omega) (by omega) c_89) e_90
  | exact shM_y hM hii hz_8_0 hz_8_1 f_69_1_0 haf_0 e_81 e_82 e_83 e_84 (lt_ye (by omega) (by omega) c_89) e_91
theorem lf_X8_share_5 {mt : Int32} {ma : Nat} {fs : Nat → Int32} {w9 : Nat} {k9 : Nat} {h9 : Nat} {j_1 : Nat} {j_5 : Nat} {j_8 : Nat} {j_12 : Nat} {w_38 : Int32} {w_39 : Int32} {ii : Nat} {v_71 : Int32} {v_77 : Int32} (hM : okM fs w9 k9 h9) (hT : ¬ mt = 0 → 1 ≤ k9) (h999 : h9 ≤ 999) (hT0 : mt = 0 → fs 0 = 0 ∧ ma = 0) (hj_1 : j_1 < k9) (hkn1 : 1 ≤ k9) (hw1 : 1 ≤ w9) (h01 : ¬ fs 0 = 0) (f_5_1_0 : (¬ (((nI j_5)).toInt64 < 0 ∨ 999 < ((nI j_5)).toInt64))) (q_5 : ¬ ((nI j_5) < 0 ∨ 999 < (nI j_5))) (hj_5 : j_5 ≤ 999) (hz_8_0 : j_8 ≤ 63) (hz_8_1 : nI j_8 = thR (fun s => fs (26 + s)) 0 k9) (f_9_1_0 : hasB (nI j_8) (nI j_1)) (hz_12_0 : j_12 ≤ 120) (hz_12_1 : (∀ s : Nat, s < k9 → hasB (nI j_8) (nI s) → 1 ≤ j_12)) (hz_12_2 : nI j_12 = ldR (fun s => fs (32 + s)) (nI j_8) k9) (hii : ii < k9) (haf_0 : (shF (m38 fs) (nI j_5) (nI j_1) (nI j_12) ii = (w_39, w_38))) (f_69_0_0 : ¬ hasB (nI j_8) (nI ii)) (e_71 : v_71 = (w_39 - 0)) (f_72_1_0 : hasB (nI j_8) (nI ii)) (c_76 : j_1 ≤ ii) (e_77 : v_77 = (w_38 + 0)) : shF (m38 fs) (nI j_5) (nI j_1) (nI j_12) (ii + 1) = (v_71, v_77) := by
  have h6 := hM.2.2.2.2.1
  first
  | exact absurd f_72_1_0 f_69_0_0
  | exact absurd f_69_1_0 f_85_0_0
  | exact shM_n hM hii hz_8_0 hz_8_1 f_69_0_0 haf_0 e_71 e_74
  | exact shM_y hM hii hz_8_0 hz_8_1 f_69_1_0 haf_0 e_81 e_82 e_83 e_84 (lt_no (by omega) (by omega) c_89) e_90
  | exact shM_y hM hii hz_8_0 hz_8_1 f_69_1_0 haf_0 e_81 e_82 e_83 e_84 (lt_ye (by omega) (by omega) c_89) e_91
theorem lf_X8_share_6 {mt : Int32} {ma : Nat} {fs : Nat → Int32} {w9 : Nat} {k9 : Nat} {h9 : Nat} {j_1 : Nat} {j_5 : Nat} {j_8 : Nat} {j_12 : Nat} {w_38 : Int32} {w_39 : Int32} {ii : Nat} {v_71 : Int32} {v_78 : Int32} (hM : okM fs w9 k9 h9) (hT : ¬ mt = 0 → 1 ≤ k9) (h999 : h9 ≤ 999) (hT0 : mt = 0 → fs 0 = 0 ∧ ma = 0) (hj_1 : j_1 < k9) (hkn1 : 1 ≤ k9) (hw1 : 1 ≤ w9) (h01 : ¬ fs 0 = 0) (f_5_1_0 : (¬ (((nI j_5)).toInt64 < 0 ∨ 999 < ((nI j_5)).toInt64))) (q_5 : ¬ ((nI j_5) < 0 ∨ 999 < (nI j_5))) (hj_5 : j_5 ≤ 999) (hz_8_0 : j_8 ≤ 63) (hz_8_1 : nI j_8 = thR (fun s => fs (26 + s)) 0 k9) (f_9_1_0 : hasB (nI j_8) (nI j_1)) (hz_12_0 : j_12 ≤ 120) (hz_12_1 : (∀ s : Nat, s < k9 → hasB (nI j_8) (nI s) → 1 ≤ j_12)) (hz_12_2 : nI j_12 = ldR (fun s => fs (32 + s)) (nI j_8) k9) (hii : ii < k9) (haf_0 : (shF (m38 fs) (nI j_5) (nI j_1) (nI j_12) ii = (w_39, w_38))) (f_69_0_0 : ¬ hasB (nI j_8) (nI ii)) (e_71 : v_71 = (w_39 - 0)) (f_72_1_0 : hasB (nI j_8) (nI ii)) (c_76 : ¬ (j_1 ≤ ii)) (e_78 : v_78 = (w_38 + 1)) : shF (m38 fs) (nI j_5) (nI j_1) (nI j_12) (ii + 1) = (v_71, v_78) := by
  have h6 := hM.2.2.2.2.1
  first
  | exact absurd f_72_1_0 f_69_0_0
  | exact absurd f_69_1_0 f_85_0_0
  | exact shM_n hM hii hz_8_0 hz_8_1 f_69_0_0 haf_0 e_71 e_74
  | exact shM_y hM hii hz_8_0 hz_8_1 f_69_1_0 haf_0 e_81 e_82 e_83 e_84 (lt_no (by omega) (by omega) c_89) e_90
  | exact shM_y hM hii hz_8_0 hz_8_1 f_69_1_0 haf_0 e_81 e_82 e_83 e_84 (lt_ye (by omega) (by omega) c_89) e_91
theorem lf_X8_share_7 {mt : Int32} {ma : Nat} {fs : Nat → Int32} {w9 : Nat} {k9 : Nat} {h9 : Nat} {j_1 : Nat} {j_5 : Nat} {j_8 : Nat} {j_12 : Nat} {w_38 : Int32} {w_39 : Int32} {ii : Nat} {v_81 : Int32} {v_82 : Int32} {v_83 : Int32} {v_84 : Int32} {v_87 : Int32} (hM : okM fs w9 k9 h9) (hT : ¬ mt = 0 → 1 ≤ k9) (h999 : h9 ≤ 999) (hT0 : mt = 0 → fs 0 = 0 ∧ ma = 0) (hj_1 : j_1 < k9) (hkn1 : 1 ≤ k9) (hw1 : 1 ≤ w9) (h01 : ¬ fs 0 = 0) (f_5_1_0 : (¬ (((nI j_5)).toInt64 < 0 ∨ 999 < ((nI j_5)).toInt64))) (q_5 : ¬ ((nI j_5) < 0 ∨ 999 < (nI j_5))) (hj_5 : j_5 ≤ 999) (hz_8_0 : j_8 ≤ 63) (hz_8_1 : nI j_8 = thR (fun s => fs (26 + s)) 0 k9) (f_9_1_0 : hasB (nI j_8) (nI j_1)) (hz_12_0 : j_12 ≤ 120) (hz_12_1 : (∀ s : Nat, s < k9 → hasB (nI j_8) (nI s) → 1 ≤ j_12)) (hz_12_2 : nI j_12 = ldR (fun s => fs (32 + s)) (nI j_8) k9) (hii : ii < k9) (haf_0 : (shF (m38 fs) (nI j_5) (nI j_1) (nI j_12) ii = (w_39, w_38))) (f_69_1_0 : hasB (nI j_8) (nI ii)) (e_81 : v_81 = fs (32 + ii)) (e_82 : v_82 = ((nI j_5) * v_81)) (e_83 : v_83 = (v_82 / (nI j_12))) (e_84 : v_84 = (w_39 - v_83)) (f_85_0_0 : ¬ hasB (nI j_8) (nI ii)) (e_87 : v_87 = (w_38 + 0)) : shF (m38 fs) (nI j_5) (nI j_1) (nI j_12) (ii + 1) = (v_84, v_87) := by
  have h6 := hM.2.2.2.2.1
  first
  | exact absurd f_72_1_0 f_69_0_0
  | exact absurd f_69_1_0 f_85_0_0
  | exact shM_n hM hii hz_8_0 hz_8_1 f_69_0_0 haf_0 e_71 e_74
  | exact shM_y hM hii hz_8_0 hz_8_1 f_69_1_0 haf_0 e_81 e_82 e_83 e_84 (lt_no (by omega) (by omega) c_89) e_90
  | exact shM_y hM hii hz_8_0 hz_8_1 f_69_1_0 haf_0 e_81 e_82 e_83 e_84 (lt_ye (by omega) (by omega) c_89) e_91
theorem lf_X8_share_8 {mt : Int32} {ma : Nat} {fs : Nat → Int32} {w9 : Nat} {k9 : Nat} {h9 : Nat} {j_1 : Nat} {j_5 : Nat} {j_8 : Nat} {j_12 : Nat} {w_38 : Int32} {w_39 : Int32} {ii : Nat} {v_81 : Int32} {v_82 : Int32} {v_83 : Int32} {v_84 : Int32} {v_90 : Int32} (hM : okM fs w9 k9 h9) (hT : ¬ mt = 0 → 1 ≤ k9) (h999 : h9 ≤ 999) (hT0 : mt = 0 → fs 0 = 0 ∧ ma = 0) (hj_1 : j_1 < k9) (hkn1 : 1 ≤ k9) (hw1 : 1 ≤ w9) (h01 : ¬ fs 0 = 0) (f_5_1_0 : (¬ (((nI j_5)).toInt64 < 0 ∨ 999 < ((nI j_5)).toInt64))) (q_5 : ¬ ((nI j_5) < 0 ∨ 999 < (nI j_5))) (hj_5 : j_5 ≤ 999) (hz_8_0 : j_8 ≤ 63) (hz_8_1 : nI j_8 = thR (fun s => fs (26 + s)) 0 k9) (f_9_1_0 : hasB (nI j_8) (nI j_1)) (hz_12_0 : j_12 ≤ 120) (hz_12_1 : (∀ s : Nat, s < k9 → hasB (nI j_8) (nI s) → 1 ≤ j_12)) (hz_12_2 : nI j_12 = ldR (fun s => fs (32 + s)) (nI j_8) k9) (hii : ii < k9) (haf_0 : (shF (m38 fs) (nI j_5) (nI j_1) (nI j_12) ii = (w_39, w_38))) (f_69_1_0 : hasB (nI j_8) (nI ii)) (e_81 : v_81 = fs (32 + ii)) (e_82 : v_82 = ((nI j_5) * v_81)) (e_83 : v_83 = (v_82 / (nI j_12))) (e_84 : v_84 = (w_39 - v_83)) (f_85_1_0 : hasB (nI j_8) (nI ii)) (c_89 : j_1 ≤ ii) (e_90 : v_90 = (w_38 + 0)) : shF (m38 fs) (nI j_5) (nI j_1) (nI j_12) (ii + 1) = (v_84, v_90) := by
  have h6 := hM.2.2.2.2.1
  first
  | exact absurd f_72_1_0 f_69_0_0
  | exact absurd f_69_1_0 f_85_0_0
  | exact shM_n hM hii hz_8_0 hz_8_1 f_69_0_0 haf_0 e_71 e_74
  | exact shM_y hM hii hz_8_0 hz_8_1 f_69_1_0 haf_0 e_81 e_82 e_83 e_84 (lt_no (by omega) (by omega) c_89) e_90
  | exact shM_y hM hii hz_8_0 hz_8_1 f_69_1_0 haf_0 e_81 e_82 e_83 e_84 (lt_ye (by omega) (by omega) c_89) e_91
theorem lf_X8_share_9 {mt : Int32} {ma : Nat} {fs : Nat → Int32} {w9 : Nat} {k9 : Nat} {h9 : Nat} {j_1 : Nat} {j_5 : Nat} {j_8 : Nat} {j_12 : Nat} {w_38 : Int32} {w_39 : Int32} {ii : Nat} {v_81 : Int32} {v_82 : Int32} {v_83 : Int32} {v_84 : Int32} {v_91 : Int32} (hM : okM fs w9 k9 h9) (hT : ¬ mt = 0 → 1 ≤ k9) (h999 : h9 ≤ 999) (hT0 : mt = 0 → fs 0 = 0 ∧ ma = 0) (hj_1 : j_1 < k9) (hkn1 : 1 ≤ k9) (hw1 : 1 ≤ w9) (h01 : ¬ fs 0 = 0) (f_5_1_0 : (¬ (((nI j_5)).toInt64 < 0 ∨ 999 < ((nI j_5)).toInt64))) (q_5 : ¬ ((nI j_5) < 0 ∨ 999 < (nI j_5))) (hj_5 : j_5 ≤ 999) (hz_8_0 : j_8 ≤ 63) (hz_8_1 : nI j_8 = thR (fun s => fs (26 + s)) 0 k9) (f_9_1_0 : hasB (nI j_8) (nI j_1)) (hz_12_0 : j_12 ≤ 120) (hz_12_1 : (∀ s : Nat, s < k9 → hasB (nI j_8) (nI s) → 1 ≤ j_12)) (hz_12_2 : nI j_12 = ldR (fun s => fs (32 + s)) (nI j_8) k9) (hii : ii < k9) (haf_0 : (shF (m38 fs) (nI j_5) (nI j_1) (nI j_12) ii = (w_39, w_38))) (f_69_1_0 : hasB (nI j_8) (nI ii)) (e_81 : v_81 = fs (32 + ii)) (e_82 : v_82 = ((nI j_5) * v_81)) (e_83 : v_83 = (v_82 / (nI j_12))) (e_84 : v_84 = (w_39 - v_83)) (f_85_1_0 : hasB (nI j_8) (nI ii)) (c_89 : ¬ (j_1 ≤ ii)) (e_91 : v_91 = (w_38 + 1)) : shF (m38 fs) (nI j_5) (nI j_1) (nI j_12) (ii + 1) = (v_84, v_91) := by
  have h6 := hM.2.2.2.2.1
  first
  | exact absurd f_72_1_0 f_69_0_0
  | exact absurd f_69_1_0 f_85_0_0
  | exact shM_n hM hii hz_8_0 hz_8_1 f_69_0_0 haf_0 e_71 e_74
  | exact shM_y hM hii hz_8_0 hz_8_1 f_69_1_0 haf_0 e_81 e_82 e_83 e_84 (lt_no (by omega) (by omega) c_89) e_90
  | exact shM_y hM hii hz_8_0 hz_8_1 f_69_1_0 haf_0 e_81 e_82 e_83 e_84 (lt_ye (by omega) (by omega) c_89) e_91
theorem lf_X8_share_10 {mt : Int32} {ma : Nat} {fs : Nat → Int32} {w9 : Nat} {k9 : Nat} {h9 : Nat} {j_1 : Nat} {j_5 : Nat} {j_8 : Nat} {j_12 : Nat} {w_38 : Int32} {w_39 : Int32} {v_95 : Int32} {v_96 : Int32} {v_97 : Int32} {v_99 : Int32} (hM : okM fs w9 k9 h9) (hT : ¬ mt = 0 → 1 ≤ k9) (h999 : h9 ≤ 999) (hT0 : mt = 0 → fs 0 = 0 ∧ ma = 0) (hj_1 : j_1 < k9) (hkn1 : 1 ≤ k9) (hw1 : 1 ≤ w9) (h01 : ¬ fs 0 = 0) (f_5_1_0 : (¬ (((nI j_5)).toInt64 < 0 ∨ 999 < ((nI j_5)).toInt64))) (q_5 : ¬ ((nI j_5) < 0 ∨ 999 < (nI j_5))) (hj_5 : j_5 ≤ 999) (hz_8_0 : j_8 ≤ 63) (hz_8_1 : nI j_8 = thR (fun s => fs (26 + s)) 0 k9) (f_9_1_0 : hasB (nI j_8) (nI j_1)) (hz_12_0 : j_12 ≤ 120) (hz_12_1 : (∀ s : Nat, s < k9 → hasB (nI j_8) (nI s) → 1 ≤ j_12)) (hz_12_2 : nI j_12 = ldR (fun s => fs (32 + s)) (nI j_8) k9) (haf_0 : (shF (m38 fs) (nI j_5) (nI j_1) (nI j_12) k9 = (w_39, w_38))) (e_95 : v_95 = fs (32 + j_1)) (e_96 : v_96 = ((nI j_5) * v_95)) (e_97 : v_97 = (v_96 / (nI j_12))) (c_98 : w_39 ≤ w_38) (e_99 : v_99 = (v_97 + 0)) : v_99 = (a_shr (m38 fs) (nI j_1) (nI j_5)) := by
  have h6 := hM.2.2.2.2.1
  first
  | exact shM_n1 hM.2.1 f_1_0_0
  | exact shr_n (Or.inr q_5)
  | exact shM_z hM hj_1 q_5 hz_8_0 hz_8_1 f_9_0_0
  | exact shM_e hM hj_1 q_5 hz_8_0 hz_8_1 f_9_1_0 hz_12_1 hz_12_0 hz_12_2 haf_0 e_95 e_96 e_97 (if_neg (i_nlt.mpr c_98)) e_99
  | exact shM_e hM hj_1 q_5 hz_8_0 hz_8_1 f_9_1_0 hz_12_1 hz_12_0 hz_12_2 haf_0 e_95 e_96 e_97 (if_pos (i_nle.mp c_98)) e_100
theorem lf_X8_share_11 {mt : Int32} {ma : Nat} {fs : Nat → Int32} {w9 : Nat} {k9 : Nat} {h9 : Nat} {j_1 : Nat} {j_5 : Nat} {j_8 : Nat} {j_12 : Nat} {w_38 : Int32} {w_39 : Int32} {v_95 : Int32} {v_96 : Int32} {v_97 : Int32} {v_100 : Int32} (hM : okM fs w9 k9 h9) (hT : ¬ mt = 0 → 1 ≤ k9) (h999 : h9 ≤ 999) (hT0 : mt = 0 → fs 0 = 0 ∧ ma = 0) (hj_1 : j_1 < k9) (hkn1 : 1 ≤ k9) (hw1 : 1 ≤ w9) (h01 : ¬ fs 0 = 0) (f_5_1_0 : (¬ (((nI j_5)).toInt64 < 0 ∨ 999 < ((nI j_5)).toInt64))) (q_5 : ¬ ((nI j_5) < 0 ∨ 999 < (nI j_5))) (hj_5 : j_5 ≤ 999) (hz_8_0 : j_8 ≤ 63) (hz_8_1 : nI j_8 = thR (fun s => fs (26 + s)) 0 k9) (f_9_1_0 : hasB (nI j_8) (nI j_1)) (hz_12_0 : j_12 ≤ 120) (hz_12_1 : (∀ s : Nat, s < k9 → hasB (nI j_8) (nI s) → 1 ≤ j_12)) (hz_12_2 : nI j_12 = ldR (fun s => fs (32 + s)) (nI j_8) k9) (haf_0 : (shF (m38 fs) (nI j_5) (nI j_1) (nI j_12) k9 = (w_39, w_38))) (e_95 : v_95 = fs (32 + j_1)) (e_96 : v_96 = ((nI j_5) * v_95)) (e_97 : v_97 = (v_96 / (nI j_12))) (c_98 : ¬ (w_39 ≤ w_38)) (e_100 : v_100 = (v_97 + 1)) : v_100 = (a_shr (m38 fs) (nI j_1) (nI j_5)) := by
  have h6 := hM.2.2.2.2.1
  first
  | exact shM_n1 hM.2.1 f_1_0_0
  | exact shr_n (Or.inr q_5)
  | exact shM_z hM hj_1 q_5 hz_8_0 hz_8_1 f_9_0_0
  | exact shM_e hM hj_1 q_5 hz_8_0 hz_8_1 f_9_1_0 hz_12_1 hz_12_0 hz_12_2 haf_0 e_95 e_96 e_97 (if_neg (i_nlt.mpr c_98)) e_99
  | exact shM_e hM hj_1 q_5 hz_8_0 hz_8_1 f_9_1_0 hz_12_1 hz_12_0 hz_12_2 haf_0 e_95 e_96 e_97 (if_pos (i_nle.mp c_98)) e_100
set_option maxHeartbeats 4000000 in
set_option maxRecDepth 100000 in
theorem r_X8_share (l : Launch) (dC : Nat → ClassId) (dI : Nat → Nat → Nat) (cI cZ cL cJ : ClassId) (mo : Nat) (m_la : Nat) (m_sz : Nat) (m_it : Nat) (m_st : Nat) (m_mv : Nat) (m_tp : Nat) (m_rd : Nat) (m_ac : Nat) (m_as : Nat) (m_wo : Nat) (m_ik : Nat) (m_ke : Nat) (m_tr : Nat) (ms : Int32) (mt : Int32) (ml : Int32) (mk : Int32) (mv : Int32) (mb : Int32) (mw : Int32) (mz : Nat) (mp : Nat) (ma : Nat) (mx : Nat) (fs : Nat → Int32) (w9 : Nat) (k9 : Nat) (h9 : Nat) (a0 : Int32) (a1 : Int32) (hM : okM fs w9 k9 h9) (hT : ¬ mt = 0 → 1 ≤ k9) (h999 : h9 ≤ 999) (hT0 : mt = 0 → fs 0 = 0 ∧ ma = 0) : Met l yX8_share wsX8_share ({ frames := 2, cells := 0, slots := 0, locals := 46 }) (va_Pc [.ref mo, .int a0, .int a1] (fun U => va_P (dC, dI) vwCl [(mo, .inr (8, [.ref m_la, .ref m_sz, .ref m_it, .int ms, .int mt, .ref m_st, .ref m_mv, .ref m_tp, .int (nI mz), .int ml, .int (nI mp), .int mk, .int mv, .int mb, .int mw, .ref m_rd, .ref m_ac, .int (nI ma), .ref m_as, .ref m_wo, .ref m_ik, .ref m_ke, .ref m_tr, .int (nI mx)])), (m_st, .inl (cI, 38, .inl fs))] U.heap ∧ va_K (dC, dI) vwCl [(cI, .int), (cZ, .boolean), (cL, .object RX3), (cJ, .array .int)] U)) (vp_Si (fun r => r = (a_shr (m38 fs) a0 a1))) 0 0 (fun _ => False) := by
  refine Met.ofW (cc := cX8_share) (maxL := 8) (ret := (some .int)) (by decide) rfl ?_
  intro p e s m args below meth c s₁ B hml hv
  obtain ⟨rfl, hP, hK⟩ := hv
  have hx := B.exec
  have hb := B.bytes
  have hr := B.returns
  have hts := atoms_spec (ws := wsX8_share) B.pre
  have hown : s.vm.findClass RX8 = some m.cls := findClass_of_methodNamed B.named
  have hlocks := B.notSynchronized
  have hP : va_P (dC, dI) vwCl [(mo, .inr (8, [.ref m_la, .ref m_sz, .ref m_it, .int ms, .int mt, .ref m_st, .ref m_mv, .ref m_tp, .int (nI mz), .int ml, .int (nI mp), .int mk, .int mv, .int mb, .int mw, .ref m_rd, .ref m_ac, .int (nI ma), .ref m_as, .ref m_wo, .ref m_ik, .ref m_ke, .ref m_tr, .int (nI mx)])), (m_st, .inl (cI, 38, .inl fs))] s.heap := hP
  have hl := lv_entry ([.ref mo, .int a0, .int a1]) (n := 8) (Nat.le_of_ble_eq_true rfl)
  rw [lg_entry_eq]
  generalize (lg_sl ([.ref mo, .int a0, .int a1]) ++ List.replicate (8 - (lg_sl ([.ref mo, .int a0, .int a1])).length) Slot.unset).toArray = ls at hl ⊢
  have hl : lv_has ls 8 [(0, .ref mo), (1, .int a0), (2, .int a1)] := hl
  have hk6 := hM.2.2.2.2.1
  have hw6 := hM.2.2.2.1
  refine lv_aload_n hx hb dX8_share_0 rfl (lv_at hl 0 rfl) ?_
  refine lv_iload_n hx hb dX8_share_1 rfl (lv_at hl 1 rfl) ?_
  have hPc_1 := hP
  refine vp_callSi (W.runV (As := [.int a0]) (rest := []) ⟨hx, hb, hml, hown, hts⟩ (r_X8_isSound l dC dI cI cZ cL cJ mo m_la m_sz m_it m_st m_mv m_tp m_rd m_ac m_as m_wo m_ik m_ke m_tr ms mt ml mk mv mb mw mz mp ma mx fs w9 k9 h9 a0 (hM)) (cwV 1 hts gX8_share_X8_isSound rfl rfl rfl (by decide +kernel) ⟨Nat.le_of_ble_eq_true rfl, Nat.le_of_ble_eq_true rfl⟩) ⟨fun a U g mk q => by obtain ⟨q0, qP, qK⟩ := q; exact ⟨q0, qP, va_K.moved (u := U) (U := U.calling g mk a) (Vm.Alike.refl U.vm) qK⟩, va_recv hK hP (ci := 8) (q0 := 0) rfl rfl, fun U hU hW => ⟨rfl, by rw [hU]; exact hPc_1, va_K.moved hW.alike hK⟩⟩ rfl rfl hl.1 rfl (lv_room (Nat.le_of_ble_eq_true rfl)) dX8_share_2 ⟨Nat.le_of_ble_eq_true rfl, Nat.le_of_ble_eq_true rfl⟩) (fun r_1 h_1 => ?_)
  rcases h_1 with ⟨h_1, f_1_0_0⟩ | ⟨h_1, f_1_1_0⟩
  · subst h_1
    refine lv_if_eq (tgt := 20) hx hb dX8_share_5 (by decide) (fun _ => ?_) (fun c_ => absurd (by decide) c_)
    refine lv_ldc (own := RX8) (v := (-1000001)) hx hb hown (hts (.constant RX8 67 (-1000001)) (by decide +kernel)) dX8_share_20 ?_
    exact W.iret (v := (-1000001)) hx hb hr (fun t ht hW => ⟨(-1000001), rfl, (lf_X8_share_1 hM hT h999 hT0 f_1_0_0), ht⟩) (fun _ h => by cases h) dX8_share_22
  · subst h_1
    obtain ⟨j_1, hj_1, rfl⟩ := vp_in_of f_1_1_0 (by omega)
    have hkn1 : 1 ≤ k9 := by omega
    have hw1 := hM.2.2.2.2.2.1.mp hkn1
    have h01 : ¬ fs 0 = 0 := cell_nz hM hkn1
    refine lv_if_eq (tgt := 20) hx hb dX8_share_5 (by decide) (fun c_ => absurd c_ (by decide)) (fun _ => ?_)
    refine lv_iload_n hx hb dX8_share_8 rfl (lv_at hl 2 rfl) ?_
    refine lv_i2l hx hb dX8_share_9 rfl ?_
    refine lv_lconst (v := 0) hx hb dX8_share_10 (by decide) ?_
    refine lv_ldc2 (own := RX8) (v := 999) hx hb hown (hts (.constantLong RX8 185 (999)) (by decide +kernel)) dX8_share_11 ?_
    have hPc_5 := hP.sub (ws' := []) [] rfl
    refine vp_callSi (W.runS (As := [.long (a1).toInt64, .long 0, .long 999]) (rest := []) ⟨hx, hb, hml, hown, hts⟩ (r_X8_in l dC dI cI cZ cL cJ ((a1).toInt64) 0 999 ) (va_cwS 3 hts gX8_share_X8_in rfl rfl rfl (by decide +kernel) ⟨Nat.le_of_ble_eq_true rfl, Nat.le_of_ble_eq_true rfl⟩) ⟨fun a U g mk q => by obtain ⟨q0, qP, qK⟩ := q; exact ⟨q0, qP, va_K.moved (u := U) (U := U.calling g mk a) (Vm.Alike.refl U.vm) qK⟩, fun U hU hW => ⟨rfl, by rw [hU]; exact hPc_5, va_K.moved hW.alike hK⟩⟩ rfl rfl hl.1 rfl (lv_room (Nat.le_of_ble_eq_true rfl)) dX8_share_14 ⟨Nat.le_of_ble_eq_true rfl, Nat.le_of_ble_eq_true rfl⟩) (fun r_5 h_5 => ?_)
    rcases h_5 with ⟨h_5, f_5_0_0⟩ | ⟨h_5, f_5_1_0⟩
    · subst h_5
      have q_5 : (a1 < 0 ∨ 999 < a1) := (in32 (x := a1) (l := 0) (u := 999) (by decide) (by decide)).mp f_5_0_0
      refine lv_if_ne (tgt := 23) hx hb dX8_share_17 (by decide) (fun c_ => absurd (by decide) c_) (fun _ => ?_)
      refine lv_ldc (own := RX8) (v := (-1000001)) hx hb hown (hts (.constant RX8 67 (-1000001)) (by decide +kernel)) dX8_share_20 ?_
      exact W.iret (v := (-1000001)) hx hb hr (fun t ht hW => ⟨(-1000001), rfl, (lf_X8_share_2 hM hT h999 hT0 hj_1 hkn1 hw1 h01 f_5_0_0 q_5), ht⟩) (fun _ h => by cases h) dX8_share_22
    · subst h_5
      have q_5 : ¬ (a1 < 0 ∨ 999 < a1) := fun q_ => f_5_1_0 ((in32 (x := a1) (l := 0) (u := 999) (by decide) (by decide)).mpr q_)
      obtain ⟨j_5, hj_5, hl_5, rfl⟩ := in64 (lo := 0) (n := 999) rfl rfl (by decide) f_5_1_0
      refine lv_if_ne (tgt := 23) hx hb dX8_share_17 (by decide) (fun _ => ?_) (fun c_ => absurd c_ (by decide))
      refine lv_aload_n hx hb dX8_share_23 rfl (lv_at hl 0 rfl) ?_
      refine lv_iconst (v := 0) hx hb dX8_share_24 (by decide) ?_
      have hPc_8 := hP
      refine vp_callSi (W.runV (As := [.int 0]) (rest := []) ⟨hx, hb, hml, hown, hts⟩ (r_X8_those l dC dI cI cZ cL cJ mo m_la m_sz m_it m_st m_mv m_tp m_rd m_ac m_as m_wo m_ik m_ke m_tr ms mt ml mk mv mb mw mz mp ma mx fs w9 k9 h9 0 (hM)) (cwV 1 hts gX8_share_X8_those rfl rfl rfl (by decide +kernel) ⟨Nat.le_of_ble_eq_true rfl, Nat.le_of_ble_eq_true rfl⟩) ⟨fun a U g mk q => by obtain ⟨q0, qP, qK⟩ := q; exact ⟨q0, qP, va_K.moved (u := U) (U := U.calling g mk a) (Vm.Alike.refl U.vm) qK⟩, va_recv hK hP (ci := 8) (q0 := 0) rfl rfl, fun U hU hW => ⟨rfl, by rw [hU]; exact hPc_8, va_K.moved hW.alike hK⟩⟩ rfl rfl hl.1 rfl (lv_room (Nat.le_of_ble_eq_true rfl)) dX8_share_25 ⟨Nat.le_of_ble_eq_true rfl, Nat.le_of_ble_eq_true rfl⟩) (fun r_8 h_8 => ?_)
      obtain ⟨j_8, rfl, hz_8_0, hz_8_1⟩ := h_8
      refine lv_istore_n (lv' := [(3, .int (nI j_8)), (0, .ref mo), (1, .int (nI j_1)), (2, .int (nI j_5))]) hx hb dX8_share_28 rfl hl (by decide) rfl (fun ls hl => ?_)
      refine lv_iload_n hx hb dX8_share_29 rfl (lv_at hl 0 rfl) ?_
      refine lv_iload_n hx hb dX8_share_30 rfl (lv_at hl 2 rfl) ?_
      have hPc_9 := hP.sub (ws' := []) [] rfl
      refine vp_callSi (W.runS (As := [.int (nI j_8), .int (nI j_1)]) (rest := []) ⟨hx, hb, hml, hown, hts⟩ (r_X8_has l dC dI cI cZ cL cJ (nI j_8) (nI j_1) ) (va_cwS 2 hts gX8_share_X8_has rfl rfl rfl (by decide +kernel) ⟨Nat.le_of_ble_eq_true rfl, Nat.le_of_ble_eq_true rfl⟩) ⟨fun a U g mk q => by obtain ⟨q0, qP, qK⟩ := q; exact ⟨q0, qP, va_K.moved (u := U) (U := U.calling g mk a) (Vm.Alike.refl U.vm) qK⟩, fun U hU hW => ⟨rfl, by rw [hU]; exact hPc_9, va_K.moved hW.alike hK⟩⟩ rfl rfl hl.1 rfl (lv_room (Nat.le_of_ble_eq_true rfl)) dX8_share_31 ⟨Nat.le_of_ble_eq_true rfl, Nat.le_of_ble_eq_true rfl⟩) (fun r_9 h_9 => ?_)
      rcases h_9 with ⟨h_9, f_9_0_0⟩ | ⟨h_9, f_9_1_0⟩
      · subst h_9
        refine lv_if_ne (tgt := 39) hx hb dX8_share_34 (by decide) (fun c_ => absurd (by decide) c_) (fun _ => ?_)
        refine lv_iconst (v := 0) hx hb dX8_share_37 (by decide) ?_
        exact W.iret (v := 0) hx hb hr (fun t ht hW => ⟨0, rfl, (lf_X8_share_3 hM hT h999 hT0 hj_1 hkn1 hw1 h01 f_5_1_0 q_5 hj_5 hz_8_0 hz_8_1 f_9_0_0), ht⟩) (fun _ h => by cases h) dX8_share_38
      · subst h_9
        refine lv_if_ne (tgt := 39) hx hb dX8_share_34 (by decide) (fun _ => ?_) (fun c_ => absurd c_ (by decide))
        refine lv_aload_n hx hb dX8_share_39 rfl (lv_at hl 1 rfl) ?_
        refine lv_iload_n hx hb dX8_share_40 rfl (lv_at hl 0 rfl) ?_
        have hPc_12 := hP
        refine vp_callSi (W.runV (As := [.int (nI j_8)]) (rest := []) ⟨hx, hb, hml, hown, hts⟩ (r_X8_loudOf l dC dI cI cZ cL cJ mo m_la m_sz m_it m_st m_mv m_tp m_rd m_ac m_as m_wo m_ik m_ke m_tr ms mt ml mk mv mb mw mz mp ma mx fs w9 k9 h9 (nI j_8) (hM)) (cwV 1 hts gX8_share_X8_loudOf rfl rfl rfl (by decide +kernel) ⟨Nat.le_of_ble_eq_true rfl, Nat.le_of_ble_eq_true rfl⟩) ⟨fun a U g mk q => by obtain ⟨q0, qP, qK⟩ := q; exact ⟨q0, qP, va_K.moved (u := U) (U := U.calling g mk a) (Vm.Alike.refl U.vm) qK⟩, va_recv hK hP (ci := 8) (q0 := 0) rfl rfl, fun U hU hW => ⟨rfl, by rw [hU]; exact hPc_12, va_K.moved hW.alike hK⟩⟩ rfl rfl hl.1 rfl (lv_room (Nat.le_of_ble_eq_true rfl)) dX8_share_41 ⟨Nat.le_of_ble_eq_true rfl, Nat.le_of_ble_eq_true rfl⟩) (fun r_12 h_12 => ?_)
        obtain ⟨j_12, rfl, hz_12_0, hz_12_1, hz_12_2⟩ := h_12
        have hz1 : 1 ≤ j_12 := hz_12_1 j_1 (by omega) f_9_1_0
        refine lv_istore (lv' := [(4, .int (nI j_12)), (3, .int (nI j_8)), (0, .ref mo), (1, .int (nI j_1)), (2, .int (nI j_5))]) hx hb dX8_share_44 hl (by decide) rfl (fun ls hl => ?_)
        refine lv_iload_n hx hb dX8_share_46 rfl (lv_at hl 4 rfl) ?_
        refine lv_istore (lv' := [(5, .int (nI j_5)), (4, .int (nI j_12)), (3, .int (nI j_8)), (0, .ref mo), (1, .int (nI j_1)), (2, .int (nI j_5))]) hx hb dX8_share_47 hl (by decide) rfl (fun ls hl => ?_)
        refine lv_iconst (v := 0) hx hb dX8_share_49 (by decide) ?_
        refine lv_istore (lv' := [(6, .int 0), (5, .int (nI j_5)), (4, .int (nI j_12)), (3, .int (nI j_8)), (0, .ref mo), (1, .int (nI j_1)), (2, .int (nI j_5))]) hx hb dX8_share_50 hl (by decide) rfl (fun ls hl => ?_)
        refine lv_iconst (v := 0) hx hb dX8_share_52 (by decide) ?_
        refine lv_istore (lv' := [(7, .int 0), (6, .int 0), (5, .int (nI j_5)), (4, .int (nI j_12)), (3, .int (nI j_8)), (0, .ref mo), (1, .int (nI j_1)), (2, .int (nI j_5))]) hx hb dX8_share_53 hl (by decide) rfl (fun ls hl => ?_)
        refine lp_go (σ := (Int32) × (Int32)) (fun ii (st : (Int32) × (Int32)) H locs ls => match st with | (w_38, w_39) => lv_has ls 8 [(7, .int (nI ii)), (6, .int w_38), (5, .int w_39), (4, .int (nI j_12)), (3, .int (nI j_8)), (0, .ref mo), (1, .int (nI j_1)), (2, .int (nI j_5))] ∧ H = s.heap ∧ locs = [] ∧ (shF (m38 fs) (nI j_5) (nI j_1) (nI j_12) ii = (w_39, w_38))) k9 ?_ ?_ 0 (by omega) (0, (nI j_5)) ⟨lv_sub hl [0, 1, 2, 3, 4, 5, 6, 7] rfl, rfl, rfl, rfl⟩
        · rintro ii ⟨w_38, w_39⟩ H locs ls hii ⟨hl, rfl, rfl, haf_0⟩ ih
          refine lv_iload hx hb dX8_share_55 (lv_at hl 0 rfl) ?_
          refine lv_aload_n hx hb dX8_share_57 rfl (lv_at hl 5 rfl) ?_
          refine va_get (D := (dC, dI)) (ci := 8) (v := .ref m_st) (C := RX8) (T := TX8) (N := 24) hx hb hts i_X8_share_X8 hown hK hP 0 rfl rfl 5 (by decide) (hts (.fieldLink RX8 19 "MillTalkModel" "st" "[I") (by decide +kernel)) (fun _ h9 => h9) rfl dX8_share_58 ?_
          refine lv_iconst (v := 4) hx hb dX8_share_61 (by decide) ?_
          refine va_iald hx hb hK hP 1 0 rfl rfl (by unfold vp_in; decide) dX8_share_62 ?_
          refine lv_topi (fun v_67 e_67 => ?_)
          obtain rfl : v_67 = (nI k9) := (e_67).trans hM.2.1
          refine lv_icmp_ge (tgt := 130) hx hb dX8_share_63 (by decide) (fun c_ => absurd c_ (fun q_ => absurd ((nI_leI (a := k9) (b := ii) (by omega) (by omega)).mp q_) (by omega))) (fun _ => ?_)
          refine lv_iload hx hb dX8_share_66 (lv_at hl 2 rfl) ?_
          refine lv_iload_n hx hb dX8_share_68 rfl (lv_at hl 4 rfl) ?_
          refine lv_iload hx hb dX8_share_69 (lv_at hl 0 rfl) ?_
          have hPc_69 := hP.sub (ws' := []) [] rfl
          refine vp_callSi (W.runS (As := [.int (nI j_8), .int (nI ii)]) (rest := [.int w_39]) ⟨hx, hb, hml, hown, hts⟩ (r_X8_has l dC dI cI cZ cL cJ (nI j_8) (nI ii) ) (va_cwS 2 hts gX8_share_X8_has rfl rfl rfl (by decide +kernel) ⟨Nat.le_of_ble_eq_true rfl, Nat.le_of_ble_eq_true rfl⟩) ⟨fun a U g mk q => by obtain ⟨q0, qP, qK⟩ := q; exact ⟨q0, qP, va_K.moved (u := U) (U := U.calling g mk a) (Vm.Alike.refl U.vm) qK⟩, fun U hU hW => ⟨rfl, by rw [hU]; exact hPc_69, va_K.moved hW.alike hK⟩⟩ rfl rfl hl.1 rfl (lv_room (Nat.le_of_ble_eq_true rfl)) dX8_share_71 ⟨Nat.le_of_ble_eq_true rfl, Nat.le_of_ble_eq_true rfl⟩) (fun r_69 h_69 => ?_)
          rcases h_69 with ⟨h_69, f_69_0_0⟩ | ⟨h_69, f_69_1_0⟩
          · subst h_69
            refine lv_if_eq (tgt := 95) hx hb dX8_share_74 (by decide) (fun _ => ?_) (fun c_ => absurd (by decide) c_)
            refine lv_iconst (v := 0) hx hb dX8_share_95 (by decide) ?_
            refine lv_isub hx hb dX8_share_96 ?_
            refine lv_topi (fun v_71 e_71 => ?_)
            refine lv_istore (lv' := [(5, .int v_71), (7, .int (nI ii)), (6, .int w_38), (4, .int (nI j_12)), (3, .int (nI j_8)), (0, .ref mo), (1, .int (nI j_1)), (2, .int (nI j_5))]) hx hb dX8_share_97 hl (by decide) rfl (fun ls hl => ?_)
            refine lv_iload hx hb dX8_share_99 (lv_at hl 2 rfl) ?_
            refine lv_iload_n hx hb dX8_share_101 rfl (lv_at hl 4 rfl) ?_
            refine lv_iload hx hb dX8_share_102 (lv_at hl 1 rfl) ?_
            have hPc_72 := hP.sub (ws' := []) [] rfl
            refine vp_callSi (W.runS (As := [.int (nI j_8), .int (nI ii)]) (rest := [.int w_38]) ⟨hx, hb, hml, hown, hts⟩ (r_X8_has l dC dI cI cZ cL cJ (nI j_8) (nI ii) ) (va_cwS 2 hts gX8_share_X8_has rfl rfl rfl (by decide +kernel) ⟨Nat.le_of_ble_eq_true rfl, Nat.le_of_ble_eq_true rfl⟩) ⟨fun a U g mk q => by obtain ⟨q0, qP, qK⟩ := q; exact ⟨q0, qP, va_K.moved (u := U) (U := U.calling g mk a) (Vm.Alike.refl U.vm) qK⟩, fun U hU hW => ⟨rfl, by rw [hU]; exact hPc_72, va_K.moved hW.alike hK⟩⟩ rfl rfl hl.1 rfl (lv_room (Nat.le_of_ble_eq_true rfl)) dX8_share_104 ⟨Nat.le_of_ble_eq_true rfl, Nat.le_of_ble_eq_true rfl⟩) (fun r_72 h_72 => ?_)
            rcases h_72 with ⟨h_72, f_72_0_0⟩ | ⟨h_72, f_72_1_0⟩
            · subst h_72
              refine lv_if_eq (tgt := 120) hx hb dX8_share_107 (by decide) (fun _ => ?_) (fun c_ => absurd (by decide) c_)
              refine lv_iconst (v := 0) hx hb dX8_share_120 (by decide) ?_
              refine lv_iadd hx hb dX8_share_121 ?_
              refine lv_topi (fun v_74 e_74 => ?_)
              refine lv_istore (lv' := [(6, .int v_74), (5, .int v_71), (7, .int (nI ii)), (4, .int (nI j_12)), (3, .int (nI j_8)), (0, .ref mo), (1, .int (nI j_1)), (2, .int (nI j_5))]) hx hb dX8_share_122 hl (by decide) rfl (fun ls hl => ?_)
              refine lv_iinc (v := (nI (ii + 1))) (lv' := [(7, .int (nI (ii + 1))), (6, .int v_74), (5, .int v_71), (4, .int (nI j_12)), (3, .int (nI j_8)), (0, .ref mo), (1, .int (nI j_1)), (2, .int (nI j_5))]) hx hb dX8_share_124 hl (k := 2) rfl (nI_add ii 1) (by decide) rfl (fun ls hl => ?_)
              refine lv_goto (tgt := 55) hx hb dX8_share_127 (by decide) ?_
              exact ih (v_74, v_71) _ _ _ ⟨lv_sub hl [0, 1, 2, 3, 4, 5, 6, 7] rfl, rfl, rfl, (lf_X8_share_4 hM hT h999 hT0 hj_1 hkn1 hw1 h01 f_5_1_0 q_5 hj_5 hz_8_0 hz_8_1 f_9_1_0 hz_12_0 hz_12_1 hz_12_2 hii haf_0 f_69_0_0 e_71 f_72_0_0 e_74)⟩
            · subst h_72
              refine lv_if_eq (tgt := 120) hx hb dX8_share_107 (by decide) (fun c_ => absurd c_ (by decide)) (fun _ => ?_)
              refine lv_iload hx hb dX8_share_110 (lv_at hl 1 rfl) ?_
              refine lv_iload_n hx hb dX8_share_112 rfl (lv_at hl 6 rfl) ?_
              refine lv_icmp_ge (tgt := 120) hx hb dX8_share_113 (by decide) (fun c_76 => ?_) (fun c_76 => ?_)
              · have c_76 : j_1 ≤ ii := (nI_leI (a := j_1) (b := ii) (by omega) (by omega)).mp c_76
                refine lv_iconst (v := 0) hx hb dX8_share_120 (by decide) ?_
                refine lv_iadd hx hb dX8_share_121 ?_
                refine lv_topi (fun v_77 e_77 => ?_)
                refine lv_istore (lv' := [(6, .int v_77), (5, .int v_71), (7, .int (nI ii)), (4, .int (nI j_12)), (3, .int (nI j_8)), (0, .ref mo), (1, .int (nI j_1)), (2, .int (nI j_5))]) hx hb dX8_share_122 hl (by decide) rfl (fun ls hl => ?_)
                refine lv_iinc (v := (nI (ii + 1))) (lv' := [(7, .int (nI (ii + 1))), (6, .int v_77), (5, .int v_71), (4, .int (nI j_12)), (3, .int (nI j_8)), (0, .ref mo), (1, .int (nI j_1)), (2, .int (nI j_5))]) hx hb dX8_share_124 hl (k := 2) rfl (nI_add ii 1) (by decide) rfl (fun ls hl => ?_)
                refine lv_goto (tgt := 55) hx hb dX8_share_127 (by decide) ?_
                exact ih (v_77, v_71) _ _ _ ⟨lv_sub hl [0, 1, 2, 3, 4, 5, 6, 7] rfl, rfl, rfl, (lf_X8_share_5 hM hT h999 hT0 hj_1 hkn1 hw1 h01 f_5_1_0 q_5 hj_5 hz_8_0 hz_8_1 f_9_1_0 hz_12_0 hz_12_1 hz_12_2 hii haf_0 f_69_0_0 e_71 f_72_1_0 c_76 e_77)⟩
              · have c_76 : ¬ (j_1 ≤ ii) := fun q_ => c_76 ((nI_leI (a := j_1) (b := ii) (by omega) (by omega)).mpr q_)
                refine lv_iconst (v := 1) hx hb dX8_share_116 (by decide) ?_
                refine lv_goto (tgt := 121) hx hb dX8_share_117 (by decide) ?_
                refine lv_iadd hx hb dX8_share_121 ?_
                refine lv_topi (fun v_78 e_78 => ?_)
                refine lv_istore (lv' := [(6, .int v_78), (5, .int v_71), (7, .int (nI ii)), (4, .int (nI j_12)), (3, .int (nI j_8)), (0, .ref mo), (1, .int (nI j_1)), (2, .int (nI j_5))]) hx hb dX8_share_122 hl (by decide) rfl (fun ls hl => ?_)
                refine lv_iinc (v := (nI (ii + 1))) (lv' := [(7, .int (nI (ii + 1))), (6, .int v_78), (5, .int v_71), (4, .int (nI j_12)), (3, .int (nI j_8)), (0, .ref mo), (1, .int (nI j_1)), (2, .int (nI j_5))]) hx hb dX8_share_124 hl (k := 2) rfl (nI_add ii 1) (by decide) rfl (fun ls hl => ?_)
                refine lv_goto (tgt := 55) hx hb dX8_share_127 (by decide) ?_
                exact ih (v_78, v_71) _ _ _ ⟨lv_sub hl [0, 1, 2, 3, 4, 5, 6, 7] rfl, rfl, rfl, (lf_X8_share_6 hM hT h999 hT0 hj_1 hkn1 hw1 h01 f_5_1_0 q_5 hj_5 hz_8_0 hz_8_1 f_9_1_0 hz_12_0 hz_12_1 hz_12_2 hii haf_0 f_69_0_0 e_71 f_72_1_0 c_76 e_78)⟩
          · subst h_69
            refine lv_if_eq (tgt := 95) hx hb dX8_share_74 (by decide) (fun c_ => absurd c_ (by decide)) (fun _ => ?_)
            refine lv_iload_n hx hb dX8_share_77 rfl (lv_at hl 7 rfl) ?_
            refine lv_aload_n hx hb dX8_share_78 rfl (lv_at hl 5 rfl) ?_
            refine va_get (D := (dC, dI)) (ci := 8) (v := .ref m_st) (C := RX8) (T := TX8) (N := 24) hx hb hts i_X8_share_X8 hown hK hP 0 rfl rfl 5 (by decide) (hts (.fieldLink RX8 19 "MillTalkModel" "st" "[I") (by decide +kernel)) (fun _ h9 => h9) rfl dX8_share_79 ?_
            refine lv_bipush (v := 32) hx hb dX8_share_82 (by decide) ?_
            refine lv_iload hx hb dX8_share_84 (lv_at hl 0 rfl) ?_
            refine lv_iadd hx hb dX8_share_86 ?_
            refine lv_topi (fun v_80 e_80 => ?_)
            obtain rfl : v_80 = (nI (32 + ii)) := (e_80).trans (nI_add 32 ii)
            refine va_iald hx hb hK hP 1 0 rfl rfl (vp_in_nI (by omega) (by omega)) dX8_share_87 ?_
            refine lv_topi (fun v_81 e_81 => ?_)
            have e_81 : v_81 = fs (32 + ii) := e_81.trans (congrArg fs (nI_clamp (by omega)))
            refine lv_imul hx hb dX8_share_88 ?_
            refine lv_topi (fun v_82 e_82 => ?_)
            refine lv_iload hx hb dX8_share_89 (lv_at hl 3 rfl) ?_
            refine lv_idiv hx hb dX8_share_91 (nI_ne0 (by omega) (by omega)) ?_
            refine lv_topi (fun v_83 e_83 => ?_)
            refine lv_goto (tgt := 96) hx hb dX8_share_92 (by decide) ?_
            refine lv_isub hx hb dX8_share_96 ?_
            refine lv_topi (fun v_84 e_84 => ?_)
            refine lv_istore (lv' := [(5, .int v_84), (7, .int (nI ii)), (6, .int w_38), (4, .int (nI j_12)), (3, .int (nI j_8)), (0, .ref mo), (1, .int (nI j_1)), (2, .int (nI j_5))]) hx hb dX8_share_97 hl (by decide) rfl (fun ls hl => ?_)
            refine lv_iload hx hb dX8_share_99 (lv_at hl 2 rfl) ?_
            refine lv_iload_n hx hb dX8_share_101 rfl (lv_at hl 4 rfl) ?_
            refine lv_iload hx hb dX8_share_102 (lv_at hl 1 rfl) ?_
            have hPc_85 := hP.sub (ws' := []) [] rfl
            refine vp_callSi (W.runS (As := [.int (nI j_8), .int (nI ii)]) (rest := [.int w_38]) ⟨hx, hb, hml, hown, hts⟩ (r_X8_has l dC dI cI cZ cL cJ (nI j_8) (nI ii) ) (va_cwS 2 hts gX8_share_X8_has rfl rfl rfl (by decide +kernel) ⟨Nat.le_of_ble_eq_true rfl, Nat.le_of_ble_eq_true rfl⟩) ⟨fun a U g mk q => by obtain ⟨q0, qP, qK⟩ := q; exact ⟨q0, qP, va_K.moved (u := U) (U := U.calling g mk a) (Vm.Alike.refl U.vm) qK⟩, fun U hU hW => ⟨rfl, by rw [hU]; exact hPc_85, va_K.moved hW.alike hK⟩⟩ rfl rfl hl.1 rfl (lv_room (Nat.le_of_ble_eq_true rfl)) dX8_share_104 ⟨Nat.le_of_ble_eq_true rfl, Nat.le_of_ble_eq_true rfl⟩) (fun r_85 h_85 => ?_)
            rcases h_85 with ⟨h_85, f_85_0_0⟩ | ⟨h_85, f_85_1_0⟩
            · subst h_85
              refine lv_if_eq (tgt := 120) hx hb dX8_share_107 (by decide) (fun _ => ?_) (fun c_ => absurd (by decide) c_)
              refine lv_iconst (v := 0) hx hb dX8_share_120 (by decide) ?_
              refine lv_iadd hx hb dX8_share_121 ?_
              refine lv_topi (fun v_87 e_87 => ?_)
              refine lv_istore (lv' := [(6, .int v_87), (5, .int v_84), (7, .int (nI ii)), (4, .int (nI j_12)), (3, .int (nI j_8)), (0, .ref mo), (1, .int (nI j_1)), (2, .int (nI j_5))]) hx hb dX8_share_122 hl (by decide) rfl (fun ls hl => ?_)
              refine lv_iinc (v := (nI (ii + 1))) (lv' := [(7, .int (nI (ii + 1))), (6, .int v_87), (5, .int v_84), (4, .int (nI j_12)), (3, .int (nI j_8)), (0, .ref mo), (1, .int (nI j_1)), (2, .int (nI j_5))]) hx hb dX8_share_124 hl (k := 2) rfl (nI_add ii 1) (by decide) rfl (fun ls hl => ?_)
              refine lv_goto (tgt := 55) hx hb dX8_share_127 (by decide) ?_
              exact ih (v_87, v_84) _ _ _ ⟨lv_sub hl [0, 1, 2, 3, 4, 5, 6, 7] rfl, rfl, rfl, (lf_X8_share_7 hM hT h999 hT0 hj_1 hkn1 hw1 h01 f_5_1_0 q_5 hj_5 hz_8_0 hz_8_1 f_9_1_0 hz_12_0 hz_12_1 hz_12_2 hii haf_0 f_69_1_0 e_81 e_82 e_83 e_84 f_85_0_0 e_87)⟩
            · subst h_85
              refine lv_if_eq (tgt := 120) hx hb dX8_share_107 (by decide) (fun c_ => absurd c_ (by decide)) (fun _ => ?_)
              refine lv_iload hx hb dX8_share_110 (lv_at hl 1 rfl) ?_
              refine lv_iload_n hx hb dX8_share_112 rfl (lv_at hl 6 rfl) ?_
              refine lv_icmp_ge (tgt := 120) hx hb dX8_share_113 (by decide) (fun c_89 => ?_) (fun c_89 => ?_)
              · have c_89 : j_1 ≤ ii := (nI_leI (a := j_1) (b := ii) (by omega) (by omega)).mp c_89
                refine lv_iconst (v := 0) hx hb dX8_share_120 (by decide) ?_
                refine lv_iadd hx hb dX8_share_121 ?_
                refine lv_topi (fun v_90 e_90 => ?_)
                refine lv_istore (lv' := [(6, .int v_90), (5, .int v_84), (7, .int (nI ii)), (4, .int (nI j_12)), (3, .int (nI j_8)), (0, .ref mo), (1, .int (nI j_1)), (2, .int (nI j_5))]) hx hb dX8_share_122 hl (by decide) rfl (fun ls hl => ?_)
                refine lv_iinc (v := (nI (ii + 1))) (lv' := [(7, .int (nI (ii + 1))), (6, .int v_90), (5, .int v_84), (4, .int (nI j_12)), (3, .int (nI j_8)), (0, .ref mo), (1, .int (nI j_1)), (2, .int (nI j_5))]) hx hb dX8_share_124 hl (k := 2) rfl (nI_add ii 1) (by decide) rfl (fun ls hl => ?_)
                refine lv_goto (tgt := 55) hx hb dX8_share_127 (by decide) ?_
                exact ih (v_90, v_84) _ _ _ ⟨lv_sub hl [0, 1, 2, 3, 4, 5, 6, 7] rfl, rfl, rfl, (lf_X8_share_8 hM hT h999 hT0 hj_1 hkn1 hw1 h01 f_5_1_0 q_5 hj_5 hz_8_0 hz_8_1 f_9_1_0 hz_12_0 hz_12_1 hz_12_2 hii haf_0 f_69_1_0 e_81 e_82 e_83 e_84 f_85_1_0 c_89 e_90)⟩
              · have c_89 : ¬ (j_1 ≤ ii) := fun q_ => c_89 ((nI_leI (a := j_1) (b := ii) (by omega) (by omega)).mpr q_)
                refine lv_iconst (v := 1) hx hb dX8_share_116 (by decide) ?_
                refine lv_goto (tgt := 121) hx hb dX8_share_117 (by decide) ?_
                refine lv_iadd hx hb dX8_share_121 ?_
                refine lv_topi (fun v_91 e_91 => ?_)
                refine lv_istore (lv' := [(6, .int v_91), (5, .int v_84), (7, .int (nI ii)), (4, .int (nI j_12)), (3, .int (nI j_8)), (0, .ref mo), (1, .int (nI j_1)), (2, .int (nI j_5))]) hx hb dX8_share_122 hl (by decide) rfl (fun ls hl => ?_)
                refine lv_iinc (v := (nI (ii + 1))) (lv' := [(7, .int (nI (ii + 1))), (6, .int v_91), (5, .int v_84), (4, .int (nI j_12)), (3, .int (nI j_8)), (0, .ref mo), (1, .int (nI j_1)), (2, .int (nI j_5))]) hx hb dX8_share_124 hl (k := 2) rfl (nI_add ii 1) (by decide) rfl (fun ls hl => ?_)
                refine lv_goto (tgt := 55) hx hb dX8_share_127 (by decide) ?_
                exact ih (v_91, v_84) _ _ _ ⟨lv_sub hl [0, 1, 2, 3, 4, 5, 6, 7] rfl, rfl, rfl, (lf_X8_share_9 hM hT h999 hT0 hj_1 hkn1 hw1 h01 f_5_1_0 q_5 hj_5 hz_8_0 hz_8_1 f_9_1_0 hz_12_0 hz_12_1 hz_12_2 hii haf_0 f_69_1_0 e_81 e_82 e_83 e_84 f_85_1_0 c_89 e_91)⟩
        · rintro ⟨w_38, w_39⟩ H locs ls ⟨hl, rfl, rfl, haf_0⟩
          refine lv_iload hx hb dX8_share_55 (lv_at hl 0 rfl) ?_
          refine lv_aload_n hx hb dX8_share_57 rfl (lv_at hl 5 rfl) ?_
          refine va_get (D := (dC, dI)) (ci := 8) (v := .ref m_st) (C := RX8) (T := TX8) (N := 24) hx hb hts i_X8_share_X8 hown hK hP 0 rfl rfl 5 (by decide) (hts (.fieldLink RX8 19 "MillTalkModel" "st" "[I") (by decide +kernel)) (fun _ h9 => h9) rfl dX8_share_58 ?_
          refine lv_iconst (v := 4) hx hb dX8_share_61 (by decide) ?_
          refine va_iald hx hb hK hP 1 0 rfl rfl (by unfold vp_in; decide) dX8_share_62 ?_
          refine lv_topi (fun v_92 e_92 => ?_)
          obtain rfl : v_92 = (nI k9) := (e_92).trans hM.2.1
          refine lv_icmp_ge (tgt := 130) hx hb dX8_share_63 (by decide) (fun _ => ?_) (fun c_ => absurd ((nI_leI (a := k9) (b := k9) (by omega) (by omega)).mpr (by omega)) c_)
          refine lv_iload_n hx hb dX8_share_130 rfl (lv_at hl 7 rfl) ?_
          refine lv_aload_n hx hb dX8_share_131 rfl (lv_at hl 5 rfl) ?_
          refine va_get (D := (dC, dI)) (ci := 8) (v := .ref m_st) (C := RX8) (T := TX8) (N := 24) hx hb hts i_X8_share_X8 hown hK hP 0 rfl rfl 5 (by decide) (hts (.fieldLink RX8 19 "MillTalkModel" "st" "[I") (by decide +kernel)) (fun _ h9 => h9) rfl dX8_share_132 ?_
          refine lv_bipush (v := 32) hx hb dX8_share_135 (by decide) ?_
          refine lv_iload_n hx hb dX8_share_137 rfl (lv_at hl 6 rfl) ?_
          refine lv_iadd hx hb dX8_share_138 ?_
          refine lv_topi (fun v_94 e_94 => ?_)
          obtain rfl : v_94 = (nI (32 + j_1)) := (e_94).trans (nI_add 32 j_1)
          refine va_iald hx hb hK hP 1 0 rfl rfl (vp_in_nI (by omega) (by omega)) dX8_share_139 ?_
          refine lv_topi (fun v_95 e_95 => ?_)
          have e_95 : v_95 = fs (32 + j_1) := e_95.trans (congrArg fs (nI_clamp (by omega)))
          refine lv_imul hx hb dX8_share_140 ?_
          refine lv_topi (fun v_96 e_96 => ?_)
          refine lv_iload hx hb dX8_share_141 (lv_at hl 3 rfl) ?_
          refine lv_idiv hx hb dX8_share_143 (nI_ne0 (by omega) (by omega)) ?_
          refine lv_topi (fun v_97 e_97 => ?_)
          refine lv_iload hx hb dX8_share_144 (lv_at hl 2 rfl) ?_
          refine lv_iload hx hb dX8_share_146 (lv_at hl 1 rfl) ?_
          refine lv_icmp_le (tgt := 155) hx hb dX8_share_148 (by decide) (fun c_98 => ?_) (fun c_98 => ?_)
          · skip
            refine lv_iconst (v := 0) hx hb dX8_share_155 (by decide) ?_
            refine lv_iadd hx hb dX8_share_156 ?_
            refine lv_topi (fun v_99 e_99 => ?_)
            exact W.iret (v := v_99) hx hb hr (fun t ht hW => ⟨v_99, rfl, (lf_X8_share_10 hM hT h999 hT0 hj_1 hkn1 hw1 h01 f_5_1_0 q_5 hj_5 hz_8_0 hz_8_1 f_9_1_0 hz_12_0 hz_12_1 hz_12_2 haf_0 e_95 e_96 e_97 c_98 e_99), ht⟩) (fun _ h => by cases h) dX8_share_157
          · skip
            refine lv_iconst (v := 1) hx hb dX8_share_151 (by decide) ?_
            refine lv_goto (tgt := 156) hx hb dX8_share_152 (by decide) ?_
            refine lv_iadd hx hb dX8_share_156 ?_
            refine lv_topi (fun v_100 e_100 => ?_)
            exact W.iret (v := v_100) hx hb hr (fun t ht hW => ⟨v_100, rfl, (lf_X8_share_11 hM hT h999 hT0 hj_1 hkn1 hw1 h01 f_5_1_0 q_5 hj_5 hz_8_0 hz_8_1 f_9_1_0 hz_12_0 hz_12_1 hz_12_2 haf_0 e_95 e_96 e_97 c_98 e_100), ht⟩) (fun _ h => by cases h) dX8_share_157
theorem lf_X8_byTurns_1 {mt : Int32} {ma : Nat} {fs : Nat → Int32} {w9 : Nat} {k9 : Nat} {h9 : Nat} {a0 : Int32} {a1 : Int32} (hM : okM fs w9 k9 h9) (hT : ¬ mt = 0 → 1 ≤ k9) (h999 : h9 ≤ 999) (hT0 : mt = 0 → fs 0 = 0 ∧ ma = 0) (c_1 : ¬ (mt = 0)) (hkn1 : 1 ≤ k9) (hw1 : 1 ≤ w9) (h01 : ¬ fs 0 = 0) (f_2_0_0 : ((a0).toInt64 < 0 ∨ 4 < (a0).toInt64)) (q_2 : (a0 < 0 ∨ 4 < a0)) : (-1000001) = (a_byt (m38 fs) a0 a1) := by
  first
  | exact byt_0 h00
  | exact byt_n h01 (Or.inl q_2)
  | exact byt_n h01 (Or.inr q_5)
theorem lf_X8_byTurns_2 {mt : Int32} {ma : Nat} {fs : Nat → Int32} {w9 : Nat} {k9 : Nat} {h9 : Nat} {a1 : Int32} {j_2 : Nat} (hM : okM fs w9 k9 h9) (hT : ¬ mt = 0 → 1 ≤ k9) (h999 : h9 ≤ 999) (hT0 : mt = 0 → fs 0 = 0 ∧ ma = 0) (c_1 : ¬ (mt = 0)) (hkn1 : 1 ≤ k9) (hw1 : 1 ≤ w9) (h01 : ¬ fs 0 = 0) (f_2_1_0 : (¬ (((nI j_2)).toInt64 < 0 ∨ 4 < ((nI j_2)).toInt64))) (q_2 : ¬ ((nI j_2) < 0 ∨ 4 < (nI j_2))) (hj_2 : j_2 ≤ 4) (f_5_0_0 : ((a1).toInt64 < 1 ∨ 20 < (a1).toInt64)) (q_5 : (a1 < 1 ∨ 20 < a1)) : (-1000001) = (a_byt (m38 fs) (nI j_2) a1) := by
  first
  | exact byt_0 h00
  | exact byt_n h01 (Or.inl q_2)
  | exact byt_n h01 (Or.inr q_5)
theorem lf_X8_byTurns_3 {mt : Int32} {ma : Nat} {fs : Nat → Int32} {w9 : Nat} {k9 : Nat} {h9 : Nat} {j_2 : Nat} {j_5 : Nat} {fan_8 : Nat → Int32} {sh : Nat} {z_11 : Nat} {w_122 : Nat → Int32} {w_123 : Nat → Int32} {ii : Nat} {w_271 : Nat → Int32} {ii1 : Nat} {v_308 : Int32} {v_309 : Int32} {v_312 : Int32} {g_313 : Nat → Int32} {v_315 : Int32} {g_316 : Nat → Int32} (hM : okM fs w9 k9 h9) (hT : ¬ mt = 0 → 1 ≤ k9) (h999 : h9 ≤ 999) (hT0 : mt = 0 → fs 0 = 0 ∧ ma = 0) (c_1 : ¬ (mt = 0)) (hkn1 : 1 ≤ k9) (hw1 : 1 ≤ w9) (h01 : ¬ fs 0 = 0) (f_2_1_0 : (¬ (((nI j_2)).toInt64 < 0 ∨ 4 < ((nI j_2)).toInt64))) (q_2 : ¬ ((nI j_2) < 0 ∨ 4 < (nI j_2))) (hj_2 : j_2 ≤ 4) (f_5_1_0 : (¬ (((nI j_5)).toInt64 < 1 ∨ 20 < ((nI j_5)).toInt64))) (q_5 : ¬ ((nI j_5) < 1 ∨ 20 < (nI j_5))) (hj_5 : j_5 ≤ 20) (hF_8_0 : (∀ j : Nat, j < 38 → fan_8 j = fs j)) (hsh : (1 : Int32) <<< (nI j_2 &&& 31) = nI sh) (hs4 : (j_2 ≤ 4 → sh ≤ 16)) (hz_11 : z_11 < w9) (hze_11 : z_11 = h9 % w9) (hii : ii < sh) (haf_0 : (∀ q : Nat, q < ii → w_122 q = wVV j_5 j_2 (m38 fs) j_2 q)) (haf_1 : (m38 w_123 = m38 fs)) (hii1 : ii1 < j_2) (haii1_0 : (m38 w_271 = plS (m38 fs) ii1 (ii / 2 ^ (j_2 - ii1)))) (hMl : okM w_271 w9 k9 h9) (e_308 : v_308 = ((nI j_2) - 1)) (e_309 : v_309 = (v_308 - (nI ii1))) (f_310_0_0 : ¬ hasB (nI ii) v_309) (e_312 : v_312 = w_271 6) (hu_313 : g_313 = upd w_271 6 v_312) (e_315 : v_315 = g_313 (8 + z_11)) (hu_316 : g_316 = upd g_313 (8 + z_11) v_315) : (m38 g_316 = plS (m38 fs) (ii1 + 1) (ii / 2 ^ (j_2 - (ii1 + 1)))) := by
  first
  | (rw [by_same e_312 hu_313 e_315 hu_316]; exact pl_no (pl_has hj_2 hii1 hsh (hs4 hj_2) hii e_308 e_309) f_310_0_0 hii1 haii1_0)
  | (exfalso; omega)
theorem lf_X8_byTurns_4 {mt : Int32} {ma : Nat} {fs : Nat → Int32} {w9 : Nat} {k9 : Nat} {h9 : Nat} {j_2 : Nat} {j_5 : Nat} {fan_8 : Nat → Int32} {sh : Nat} {z_11 : Nat} {w_122 : Nat → Int32} {w_123 : Nat → Int32} {ii : Nat} {w_271 : Nat → Int32} {ii1 : Nat} {v_308 : Int32} {v_309 : Int32} {z_318 : Nat} {v_320 : Int32} {g_321 : Nat → Int32} {z_323 : Nat} {v_325 : Int32} {g_326 : Nat → Int32} (hM : okM fs w9 k9 h9) (hT : ¬ mt = 0 → 1 ≤ k9) (h999 : h9 ≤ 999) (hT0 : mt = 0 → fs 0 = 0 ∧ ma = 0) (c_1 : ¬ (mt = 0)) (hkn1 : 1 ≤ k9) (hw1 : 1 ≤ w9) (h01 : ¬ fs 0 = 0) (f_2_1_0 : (¬ (((nI j_2)).toInt64 < 0 ∨ 4 < ((nI j_2)).toInt64))) (q_2 : ¬ ((nI j_2) < 0 ∨ 4 < (nI j_2))) (hj_2 : j_2 ≤ 4) (f_5_1_0 : (¬ (((nI j_5)).toInt64 < 1 ∨ 20 < ((nI j_5)).toInt64))) (q_5 : ¬ ((nI j_5) < 1 ∨ 20 < (nI j_5))) (hj_5 : j_5 ≤ 20) (hF_8_0 : (∀ j : Nat, j < 38 → fan_8 j = fs j)) (hsh : (1 : Int32) <<< (nI j_2 &&& 31) = nI sh) (hs4 : (j_2 ≤ 4 → sh ≤ 16)) (hz_11 : z_11 < w9) (hze_11 : z_11 = h9 % w9) (hii : ii < sh) (haf_0 : (∀ q : Nat, q < ii → w_122 q = wVV j_5 j_2 (m38 fs) j_2 q)) (haf_1 : (m38 w_123 = m38 fs)) (hii1 : ii1 < j_2) (haii1_0 : (m38 w_271 = plS (m38 fs) ii1 (ii / 2 ^ (j_2 - ii1)))) (hMl : okM w_271 w9 k9 h9) (e_308 : v_308 = ((nI j_2) - 1)) (e_309 : v_309 = (v_308 - (nI ii1))) (f_310_1_0 : hasB (nI ii) v_309) (hz_318 : z_318 < 2) (hze_318 : z_318 = ii1 % 2) (c_319 : ¬ (z_318 = 0)) (e_320 : v_320 = w_271 6) (hu_321 : g_321 = upd w_271 6 v_320) (hz_323 : z_323 < 2) (hze_323 : z_323 = ii1 % 2) (c_324 : ¬ (z_323 = 1)) (e_325 : v_325 = g_321 (8 + z_11)) (hu_326 : g_326 = upd g_321 (8 + z_11) v_325) : (m38 g_326 = plS (m38 fs) (ii1 + 1) (ii / 2 ^ (j_2 - (ii1 + 1)))) := by
  (exfalso; omega)
theorem lf_X8_byTurns_5 {mt : Int32} {ma : Nat} {fs : Nat → Int32} {w9 : Nat} {k9 : Nat} {h9 : Nat} {j_2 : Nat} {j_5 : Nat} {fan_8 : Nat → Int32} {sh : Nat} {z_11 : Nat} {w_122 : Nat → Int32} {w_123 : Nat → Int32} {ii : Nat} {w_271 : Nat → Int32} {ii1 : Nat} {v_308 : Int32} {v_309 : Int32} {z_318 : Nat} {v_320 : Int32} {g_321 : Nat → Int32} {z_323 : Nat} {v_327 : Int32} {v_328 : Int32} {g_329 : Nat → Int32} (hM : okM fs w9 k9 h9) (hT : ¬ mt = 0 → 1 ≤ k9) (h999 : h9 ≤ 999) (hT0 : mt = 0 → fs 0 = 0 ∧ ma = 0) (c_1 : ¬ (mt = 0)) (hkn1 : 1 ≤ k9) (hw1 : 1 ≤ w9) (h01 : ¬ fs 0 = 0) (f_2_1_0 : (¬ (((nI j_2)).toInt64 < 0 ∨ 4 < ((nI j_2)).toInt64))) (q_2 : ¬ ((nI j_2) < 0 ∨ 4 < (nI j_2))) (hj_2 : j_2 ≤ 4) (f_5_1_0 : (¬ (((nI j_5)).toInt64 < 1 ∨ 20 < ((nI j_5)).toInt64))) (q_5 : ¬ ((nI j_5) < 1 ∨ 20 < (nI j_5))) (hj_5 : j_5 ≤ 20) (hF_8_0 : (∀ j : Nat, j < 38 → fan_8 j = fs j)) (hsh : (1 : Int32) <<< (nI j_2 &&& 31) = nI sh) (hs4 : (j_2 ≤ 4 → sh ≤ 16)) (hz_11 : z_11 < w9) (hze_11 : z_11 = h9 % w9) (hii : ii < sh) (haf_0 : (∀ q : Nat, q < ii → w_122 q = wVV j_5 j_2 (m38 fs) j_2 q)) (haf_1 : (m38 w_123 = m38 fs)) (hii1 : ii1 < j_2) (haii1_0 : (m38 w_271 = plS (m38 fs) ii1 (ii / 2 ^ (j_2 - ii1)))) (hMl : okM w_271 w9 k9 h9) (e_308 : v_308 = ((nI j_2) - 1)) (e_309 : v_309 = (v_308 - (nI ii1))) (f_310_1_0 : hasB (nI ii) v_309) (hz_318 : z_318 < 2) (hze_318 : z_318 = ii1 % 2) (c_319 : ¬ (z_318 = 0)) (e_320 : v_320 = w_271 6) (hu_321 : g_321 = upd w_271 6 v_320) (hz_323 : z_323 < 2) (hze_323 : z_323 = ii1 % 2) (c_324 : z_323 = 1) (e_327 : v_327 = g_321 (8 + z_11)) (e_328 : v_328 = (4 - v_327)) (hu_329 : g_329 = upd g_321 (8 + z_11) v_328) : (m38 g_329 = plS (m38 fs) (ii1 + 1) (ii / 2 ^ (j_2 - (ii1 + 1)))) := by
  first
  | (exfalso; omega)
  | exact pl_ye (pl_has hj_2 hii1 hsh (hs4 hj_2) hii e_308 e_309) f_310_1_0 hii1 haii1_0 (by_wnd hMl hw1 h999 e_320 hu_321 e_327 e_328 hu_329 hze_11 (by omega))
theorem lf_X8_byTurns_6 {mt : Int32} {ma : Nat} {fs : Nat → Int32} {w9 : Nat} {k9 : Nat} {h9 : Nat} {j_2 : Nat} {j_5 : Nat} {fan_8 : Nat → Int32} {sh : Nat} {z_11 : Nat} {w_122 : Nat → Int32} {w_123 : Nat → Int32} {ii : Nat} {w_271 : Nat → Int32} {ii1 : Nat} {v_308 : Int32} {v_309 : Int32} {z_318 : Nat} {v_330 : Int32} {v_331 : Int32} {g_332 : Nat → Int32} {z_334 : Nat} {v_336 : Int32} {g_337 : Nat → Int32} (hM : okM fs w9 k9 h9) (hT : ¬ mt = 0 → 1 ≤ k9) (h999 : h9 ≤ 999) (hT0 : mt = 0 → fs 0 = 0 ∧ ma = 0) (c_1 : ¬ (mt = 0)) (hkn1 : 1 ≤ k9) (hw1 : 1 ≤ w9) (h01 : ¬ fs 0 = 0) (f_2_1_0 : (¬ (((nI j_2)).toInt64 < 0 ∨ 4 < ((nI j_2)).toInt64))) (q_2 : ¬ ((nI j_2) < 0 ∨ 4 < (nI j_2))) (hj_2 : j_2 ≤ 4) (f_5_1_0 : (¬ (((nI j_5)).toInt64 < 1 ∨ 20 < ((nI j_5)).toInt64))) (q_5 : ¬ ((nI j_5) < 1 ∨ 20 < (nI j_5))) (hj_5 : j_5 ≤ 20) (hF_8_0 : (∀ j : Nat, j < 38 → fan_8 j = fs j)) (hsh : (1 : Int32) <<< (nI j_2 &&& 31) = nI sh) (hs4 : (j_2 ≤ 4 → sh ≤ 16)) (hz_11 : z_11 < w9) (hze_11 : z_11 = h9 % w9) (hii : ii < sh) (haf_0 : (∀ q : Nat, q < ii → w_122 q = wVV j_5 j_2 (m38 fs) j_2 q)) (haf_1 : (m38 w_123 = m38 fs)) (hii1 : ii1 < j_2) (haii1_0 : (m38 w_271 = plS (m38 fs) ii1 (ii / 2 ^ (j_2 - ii1)))) (hMl : okM w_271 w9 k9 h9) (e_308 : v_308 = ((nI j_2) - 1)) (e_309 : v_309 = (v_308 - (nI ii1))) (f_310_1_0 : hasB (nI ii) v_309) (hz_318 : z_318 < 2) (hze_318 : z_318 = ii1 % 2) (c_319 : z_318 = 0) (e_330 : v_330 = w_271 6) (e_331 : v_331 = (1 - v_330)) (hu_332 : g_332 = upd w_271 6 v_331) (hz_334 : z_334 < 2) (hze_334 : z_334 = ii1 % 2) (c_335 : ¬ (z_334 = 1)) (e_336 : v_336 = g_332 (8 + z_11)) (hu_337 : g_337 = upd g_332 (8 + z_11) v_336) : (m38 g_337 = plS (m38 fs) (ii1 + 1) (ii / 2 ^ (j_2 - (ii1 + 1)))) := by
  first
  | (exfalso; omega)
  | exact pl_ye (pl_has hj_2 hii1 hsh (hs4 hj_2) hii e_308 e_309) f_310_1_0 hii1 haii1_0 (by_cap e_330 e_331 hu_332 e_336 hu_337 (by omega))
theorem lf_X8_byTurns_7 {mt : Int32} {ma : Nat} {fs : Nat → Int32} {w9 : Nat} {k9 : Nat} {h9 : Nat} {j_2 : Nat} {j_5 : Nat} {fan_8 : Nat → Int32} {sh : Nat} {z_11 : Nat} {w_122 : Nat → Int32} {w_123 : Nat → Int32} {ii : Nat} {w_271 : Nat → Int32} {ii1 : Nat} {v_308 : Int32} {v_309 : Int32} {z_318 : Nat} {v_330 : Int32} {v_331 : Int32} {g_332 : Nat → Int32} {z_334 : Nat} {v_338 : Int32} {v_339 : Int32} {g_340 : Nat → Int32} (hM : okM fs w9 k9 h9) (hT : ¬ mt = 0 → 1 ≤ k9) (h999 : h9 ≤ 999) (hT0 : mt = 0 → fs 0 = 0 ∧ ma = 0) (c_1 : ¬ (mt = 0)) (hkn1 : 1 ≤ k9) (hw1 : 1 ≤ w9) (h01 : ¬ fs 0 = 0) (f_2_1_0 : (¬ (((nI j_2)).toInt64 < 0 ∨ 4 < ((nI j_2)).toInt64))) (q_2 : ¬ ((nI j_2) < 0 ∨ 4 < (nI j_2))) (hj_2 : j_2 ≤ 4) (f_5_1_0 : (¬ (((nI j_5)).toInt64 < 1 ∨ 20 < ((nI j_5)).toInt64))) (q_5 : ¬ ((nI j_5) < 1 ∨ 20 < (nI j_5))) (hj_5 : j_5 ≤ 20) (hF_8_0 : (∀ j : Nat, j < 38 → fan_8 j = fs j)) (hsh : (1 : Int32) <<< (nI j_2 &&& 31) = nI sh) (hs4 : (j_2 ≤ 4 → sh ≤ 16)) (hz_11 : z_11 < w9) (hze_11 : z_11 = h9 % w9) (hii : ii < sh) (haf_0 : (∀ q : Nat, q < ii → w_122 q = wVV j_5 j_2 (m38 fs) j_2 q)) (haf_1 : (m38 w_123 = m38 fs)) (hii1 : ii1 < j_2) (haii1_0 : (m38 w_271 = plS (m38 fs) ii1 (ii / 2 ^ (j_2 - ii1)))) (hMl : okM w_271 w9 k9 h9) (e_308 : v_308 = ((nI j_2) - 1)) (e_309 : v_309 = (v_308 - (nI ii1))) (f_310_1_0 : hasB (nI ii) v_309) (hz_318 : z_318 < 2) (hze_318 : z_318 = ii1 % 2) (c_319 : z_318 = 0) (e_330 : v_330 = w_271 6) (e_331 : v_331 = (1 - v_330)) (hu_332 : g_332 = upd w_271 6 v_331) (hz_334 : z_334 < 2) (hze_334 : z_334 = ii1 % 2) (c_335 : z_334 = 1) (e_338 : v_338 = g_332 (8 + z_11)) (e_339 : v_339 = (4 - v_338)) (hu_340 : g_340 = upd g_332 (8 + z_11) v_339) : (m38 g_340 = plS (m38 fs) (ii1 + 1) (ii / 2 ^ (j_2 - (ii1 + 1)))) := by
  (exfalso; omega)
theorem lf_X8_byTurns_8 {mt : Int32} {ma : Nat} {fs : Nat → Int32} {w9 : Nat} {k9 : Nat} {h9 : Nat} {j_2 : Nat} {j_5 : Nat} {fan_8 : Nat → Int32} {sh : Nat} {z_11 : Nat} {w_122 : Nat → Int32} {w_123 : Nat → Int32} {ii : Nat} {w_271 : Nat → Int32} {fsn_342 : Nat → Int32} {r_342 : Int32} {g_343 : Nat → Int32} (hM : okM fs w9 k9 h9) (hT : ¬ mt = 0 → 1 ≤ k9) (h999 : h9 ≤ 999) (hT0 : mt = 0 → fs 0 = 0 ∧ ma = 0) (c_1 : ¬ (mt = 0)) (hkn1 : 1 ≤ k9) (hw1 : 1 ≤ w9) (h01 : ¬ fs 0 = 0) (f_2_1_0 : (¬ (((nI j_2)).toInt64 < 0 ∨ 4 < ((nI j_2)).toInt64))) (q_2 : ¬ ((nI j_2) < 0 ∨ 4 < (nI j_2))) (hj_2 : j_2 ≤ 4) (f_5_1_0 : (¬ (((nI j_5)).toInt64 < 1 ∨ 20 < ((nI j_5)).toInt64))) (q_5 : ¬ ((nI j_5) < 1 ∨ 20 < (nI j_5))) (hj_5 : j_5 ≤ 20) (hF_8_0 : (∀ j : Nat, j < 38 → fan_8 j = fs j)) (hsh : (1 : Int32) <<< (nI j_2 &&& 31) = nI sh) (hs4 : (j_2 ≤ 4 → sh ≤ 16)) (hz_11 : z_11 < w9) (hze_11 : z_11 = h9 % w9) (hii : ii < sh) (haf_0 : (∀ q : Nat, q < ii → w_122 q = wVV j_5 j_2 (m38 fs) j_2 q)) (haf_1 : (m38 w_123 = m38 fs)) (haii1_0 : (m38 w_271 = plS (m38 fs) j_2 (ii / 2 ^ (j_2 - j_2)))) (hMl : okM w_271 w9 k9 h9) (hF_342_0 : (∀ j_5 : Nat, j_5 < 38 → fsn_342 j_5 = fan_8 j_5)) (h_342 : r_342 = (mGo j_5 w_271 7)) (hu_343 : g_343 = upd w_122 ii r_342) : (∀ q : Nat, q < (ii + 1) → g_343 q = wVV j_5 j_2 (m38 fs) j_2 q) := by
  exact by_row hMl hw1 haf_0 haii1_0 h_342 hu_343
theorem lf_X8_byTurns_9 {mt : Int32} {ma : Nat} {fs : Nat → Int32} {w9 : Nat} {k9 : Nat} {h9 : Nat} {j_2 : Nat} {j_5 : Nat} {fan_8 : Nat → Int32} {sh : Nat} {z_11 : Nat} {w_122 : Nat → Int32} {w_123 : Nat → Int32} {v_346 : Int32} (hM : okM fs w9 k9 h9) (hT : ¬ mt = 0 → 1 ≤ k9) (h999 : h9 ≤ 999) (hT0 : mt = 0 → fs 0 = 0 ∧ ma = 0) (c_1 : ¬ (mt = 0)) (hkn1 : 1 ≤ k9) (hw1 : 1 ≤ w9) (h01 : ¬ fs 0 = 0) (f_2_1_0 : (¬ (((nI j_2)).toInt64 < 0 ∨ 4 < ((nI j_2)).toInt64))) (q_2 : ¬ ((nI j_2) < 0 ∨ 4 < (nI j_2))) (hj_2 : j_2 ≤ 4) (f_5_1_0 : (¬ (((nI j_5)).toInt64 < 1 ∨ 20 < ((nI j_5)).toInt64))) (q_5 : ¬ ((nI j_5) < 1 ∨ 20 < (nI j_5))) (hj_5 : j_5 ≤ 20) (hF_8_0 : (∀ j : Nat, j < 38 → fan_8 j = fs j)) (hsh : (1 : Int32) <<< (nI j_2 &&& 31) = nI sh) (hs4 : (j_2 ≤ 4 → sh ≤ 16)) (hz_11 : z_11 < w9) (hze_11 : z_11 = h9 % w9) (haf_0 : (∀ q : Nat, q < sh → w_122 q = wVV j_5 j_2 (m38 fs) j_2 q)) (haf_1 : (m38 w_123 = m38 fs)) (hMl : okM w_123 w9 k9 h9) (e_346 : v_346 = ((nI j_2) - 1)) : (∀ q : Nat, q < 2 ^ (j_2 - 0) → w_122 q = wVV j_5 j_2 (m38 fs) (j_2 - 0) q) := by
  exact by_i3 hj_2 hsh (hs4 hj_2) haf_0
theorem lf_X8_byTurns_10 {mt : Int32} {ma : Nat} {fs : Nat → Int32} {w9 : Nat} {k9 : Nat} {h9 : Nat} {j_2 : Nat} {j_5 : Nat} {fan_8 : Nat → Int32} {sh : Nat} {z_11 : Nat} {w_122 : Nat → Int32} {w_123 : Nat → Int32} {v_346 : Int32} {w_412 : Nat → Int32} {ii1 : Nat} {sd : Nat} {w_500 : Nat → Int32} {ii2 : Nat} {v_525 : Int32} {v_528 : Int32} {v_530 : Int32} {g_533 : Nat → Int32} (hM : okM fs w9 k9 h9) (hT : ¬ mt = 0 → 1 ≤ k9) (h999 : h9 ≤ 999) (hT0 : mt = 0 → fs 0 = 0 ∧ ma = 0) (c_1 : ¬ (mt = 0)) (hkn1 : 1 ≤ k9) (hw1 : 1 ≤ w9) (h01 : ¬ fs 0 = 0) (f_2_1_0 : (¬ (((nI j_2)).toInt64 < 0 ∨ 4 < ((nI j_2)).toInt64))) (q_2 : ¬ ((nI j_2) < 0 ∨ 4 < (nI j_2))) (hj_2 : j_2 ≤ 4) (f_5_1_0 : (¬ (((nI j_5)).toInt64 < 1 ∨ 20 < ((nI j_5)).toInt64))) (q_5 : ¬ ((nI j_5) < 1 ∨ 20 < (nI j_5))) (hj_5 : j_5 ≤ 20) (hF_8_0 : (∀ j : Nat, j < 38 → fan_8 j = fs j)) (hsh : (1 : Int32) <<< (nI j_2 &&& 31) = nI sh) (hs4 : (j_2 ≤ 4 → sh ≤ 16)) (hz_11 : z_11 < w9) (hze_11 : z_11 = h9 % w9) (haf_0 : (∀ q : Nat, q < sh → w_122 q = wVV j_5 j_2 (m38 fs) j_2 q)) (haf_1 : (m38 w_123 = m38 fs)) (e_346 : v_346 = ((nI j_2) - 1)) (hii1 : ii1 < j_2) (haii1_0 : (∀ q : Nat, q < 2 ^ (j_2 - ii1) → w_412 q = wVV j_5 j_2 (m38 fs) (j_2 - ii1) q)) (hsd : (1 : Int32) <<< (cdn j_2 ii1 &&& 31) = nI sd) (hsd8 : sd ≤ 8) (hii2 : ii2 < sd) (haii2_0 : (∀ q : Nat, q < ii2 → w_500 q = wVV j_5 j_2 (m38 fs) (j_2 - 1 - ii1) q)) (haii2_1 : (∀ q : Nat, 2 * ii2 ≤ q → q < 2 ^ (j_2 - ii1) → w_500 q = wVV j_5 j_2 (m38 fs) (j_2 - ii1) q)) (hMl : okM w_123 w9 k9 h9) (e_525 : v_525 = w_500 (2 * ii2)) (e_528 : v_528 = w_500 ((2 * ii2) + 1)) (c_529 : v_525 ≤ v_528) (e_530 : v_530 = ((cdn j_2 ii1) - (cdn j_2 ii1) / 2 * 2)) (c_531 : ¬ (v_530 = 0)) (hu_533 : g_533 = upd w_500 ii2 v_525) : (∀ q : Nat, q < (ii2 + 1) → g_533 q = wVV j_5 j_2 (m38 fs) (j_2 - 1 - ii1) q) := by
  exact by_4 haii2_0 hu_533 ((cmb_1 _ c_529 (ev_f (fun q => c_531 ((cd_2 hj_2 hii1 e_530).mpr q)))).trans (by_two hii1 (by rw [← by_sd hj_2 hii1 hsd hsd8]; exact hii2) haii2_1 e_525 e_528).symm)
theorem lf_X8_byTurns_11 {mt : Int32} {ma : Nat} {fs : Nat → Int32} {w9 : Nat} {k9 : Nat} {h9 : Nat} {j_2 : Nat} {j_5 : Nat} {fan_8 : Nat → Int32} {sh : Nat} {z_11 : Nat} {w_122 : Nat → Int32} {w_123 : Nat → Int32} {v_346 : Int32} {w_412 : Nat → Int32} {ii1 : Nat} {sd : Nat} {w_500 : Nat → Int32} {ii2 : Nat} {v_525 : Int32} {v_528 : Int32} {v_530 : Int32} {g_533 : Nat → Int32} (hM : okM fs w9 k9 h9) (hT : ¬ mt = 0 → 1 ≤ k9) (h999 : h9 ≤ 999) (hT0 : mt = 0 → fs 0 = 0 ∧ ma = 0) (c_1 : ¬ (mt = 0)) (hkn1 : 1 ≤ k9) (hw1 : 1 ≤ w9) (h01 : ¬ fs 0 = 0) (f_2_1_0 : (¬ (((nI j_2)).toInt64 < 0 ∨ 4 < ((nI j_2)).toInt64))) (q_2 : ¬ ((nI j_2) < 0 ∨ 4 < (nI j_2))) (hj_2 : j_2 ≤ 4) (f_5_1_0 : (¬ (((nI j_5)).toInt64 < 1 ∨ 20 < ((nI j_5)).toInt64))) (q_5 : ¬ ((nI j_5) < 1 ∨ 20 < (nI j_5))) (hj_5 : j_5 ≤ 20) (hF_8_0 : (∀ j : Nat, j < 38 → fan_8 j = fs j)) (hsh : (1 : Int32) <<< (nI j_2 &&& 31) = nI sh) (hs4 : (j_2 ≤ 4 → sh ≤ 16)) (hz_11 : z_11 < w9) (hze_11 : z_11 = h9 % w9) (haf_0 : (∀ q : Nat, q < sh → w_122 q = wVV j_5 j_2 (m38 fs) j_2 q)) (haf_1 : (m38 w_123 = m38 fs)) (e_346 : v_346 = ((nI j_2) - 1)) (hii1 : ii1 < j_2) (haii1_0 : (∀ q : Nat, q < 2 ^ (j_2 - ii1) → w_412 q = wVV j_5 j_2 (m38 fs) (j_2 - ii1) q)) (hsd : (1 : Int32) <<< (cdn j_2 ii1 &&& 31) = nI sd) (hsd8 : sd ≤ 8) (hii2 : ii2 < sd) (haii2_0 : (∀ q : Nat, q < ii2 → w_500 q = wVV j_5 j_2 (m38 fs) (j_2 - 1 - ii1) q)) (haii2_1 : (∀ q : Nat, 2 * ii2 ≤ q → q < 2 ^ (j_2 - ii1) → w_500 q = wVV j_5 j_2 (m38 fs) (j_2 - ii1) q)) (hMl : okM w_123 w9 k9 h9) (e_525 : v_525 = w_500 (2 * ii2)) (e_528 : v_528 = w_500 ((2 * ii2) + 1)) (c_529 : v_525 ≤ v_528) (e_530 : v_530 = ((cdn j_2 ii1) - (cdn j_2 ii1) / 2 * 2)) (c_531 : ¬ (v_530 = 0)) (hu_533 : g_533 = upd w_500 ii2 v_525) : (∀ q : Nat, 2 * (ii2 + 1) ≤ q → q < 2 ^ (j_2 - ii1) → g_533 q = wVV j_5 j_2 (m38 fs) (j_2 - ii1) q) := by
  exact by_5 haii2_1 hu_533
theorem lf_X8_byTurns_12 {mt : Int32} {ma : Nat} {fs : Nat → Int32} {w9 : Nat} {k9 : Nat} {h9 : Nat} {j_2 : Nat} {j_5 : Nat} {fan_8 : Nat → Int32} {sh : Nat} {z_11 : Nat} {w_122 : Nat → Int32} {w_123 : Nat → Int32} {v_346 : Int32} {w_412 : Nat → Int32} {ii1 : Nat} {sd : Nat} {w_500 : Nat → Int32} {ii2 : Nat} {v_525 : Int32} {v_528 : Int32} {v_530 : Int32} {g_535 : Nat → Int32} (hM : okM fs w9 k9 h9) (hT : ¬ mt = 0 → 1 ≤ k9) (h999 : h9 ≤ 999) (hT0 : mt = 0 → fs 0 = 0 ∧ ma = 0) (c_1 : ¬ (mt = 0)) (hkn1 : 1 ≤ k9) (hw1 : 1 ≤ w9) (h01 : ¬ fs 0 = 0) (f_2_1_0 : (¬ (((nI j_2)).toInt64 < 0 ∨ 4 < ((nI j_2)).toInt64))) (q_2 : ¬ ((nI j_2) < 0 ∨ 4 < (nI j_2))) (hj_2 : j_2 ≤ 4) (f_5_1_0 : (¬ (((nI j_5)).toInt64 < 1 ∨ 20 < ((nI j_5)).toInt64))) (q_5 : ¬ ((nI j_5) < 1 ∨ 20 < (nI j_5))) (hj_5 : j_5 ≤ 20) (hF_8_0 : (∀ j : Nat, j < 38 → fan_8 j = fs j)) (hsh : (1 : Int32) <<< (nI j_2 &&& 31) = nI sh) (hs4 : (j_2 ≤ 4 → sh ≤ 16)) (hz_11 : z_11 < w9) (hze_11 : z_11 = h9 % w9) (haf_0 : (∀ q : Nat, q < sh → w_122 q = wVV j_5 j_2 (m38 fs) j_2 q)) (haf_1 : (m38 w_123 = m38 fs)) (e_346 : v_346 = ((nI j_2) - 1)) (hii1 : ii1 < j_2) (haii1_0 : (∀ q : Nat, q < 2 ^ (j_2 - ii1) → w_412 q = wVV j_5 j_2 (m38 fs) (j_2 - ii1) q)) (hsd : (1 : Int32) <<< (cdn j_2 ii1 &&& 31) = nI sd) (hsd8 : sd ≤ 8) (hii2 : ii2 < sd) (haii2_0 : (∀ q : Nat, q < ii2 → w_500 q = wVV j_5 j_2 (m38 fs) (j_2 - 1 - ii1) q)) (haii2_1 : (∀ q : Nat, 2 * ii2 ≤ q → q < 2 ^ (j_2 - ii1) → w_500 q = wVV j_5 j_2 (m38 fs) (j_2 - ii1) q)) (hMl : okM w_123 w9 k9 h9) (e_525 : v_525 = w_500 (2 * ii2)) (e_528 : v_528 = w_500 ((2 * ii2) + 1)) (c_529 : v_525 ≤ v_528) (e_530 : v_530 = ((cdn j_2 ii1) - (cdn j_2 ii1) / 2 * 2)) (c_531 : v_530 = 0) (hu_535 : g_535 = upd w_500 ii2 v_528) : (∀ q : Nat, q < (ii2 + 1) → g_535 q = wVV j_5 j_2 (m38 fs) (j_2 - 1 - ii1) q) := by
  exact by_4 haii2_0 hu_535 ((cmb_2 _ c_529 ((cd_2 hj_2 hii1 e_530).mp c_531)).trans (by_two hii1 (by rw [← by_sd hj_2 hii1 hsd hsd8]; exact hii2) haii2_1 e_525 e_528).symm)
theorem lf_X8_byTurns_13 {mt : Int32} {ma : Nat} {fs : Nat → Int32} {w9 : Nat} {k9 : Nat} {h9 : Nat} {j_2 : Nat} {j_5 : Nat} {fan_8 : Nat → Int32} {sh : Nat} {z_11 : Nat} {w_122 : Nat → Int32} {w_123 : Nat → Int32} {v_346 : Int32} {w_412 : Nat → Int32} {ii1 : Nat} {sd : Nat} {w_500 : Nat → Int32} {ii2 : Nat} {v_525 : Int32} {v_528 : Int32} {v_530 : Int32} {g_535 : Nat → Int32} (hM : okM fs w9 k9 h9) (hT : ¬ mt = 0 → 1 ≤ k9) (h999 : h9 ≤ 999) (hT0 : mt = 0 → fs 0 = 0 ∧ ma = 0) (c_1 : ¬ (mt = 0)) (hkn1 : 1 ≤ k9) (hw1 : 1 ≤ w9) (h01 : ¬ fs 0 = 0) (f_2_1_0 : (¬ (((nI j_2)).toInt64 < 0 ∨ 4 < ((nI j_2)).toInt64))) (q_2 : ¬ ((nI j_2) < 0 ∨ 4 < (nI j_2))) (hj_2 : j_2 ≤ 4) (f_5_1_0 : (¬ (((nI j_5)).toInt64 < 1 ∨ 20 < ((nI j_5)).toInt64))) (q_5 : ¬ ((nI j_5) < 1 ∨ 20 < (nI j_5))) (hj_5 : j_5 ≤ 20) (hF_8_0 : (∀ j : Nat, j < 38 → fan_8 j = fs j)) (hsh : (1 : Int32) <<< (nI j_2 &&& 31) = nI sh) (hs4 : (j_2 ≤ 4 → sh ≤ 16)) (hz_11 : z_11 < w9) (hze_11 : z_11 = h9 % w9) (haf_0 : (∀ q : Nat, q < sh → w_122 q = wVV j_5 j_2 (m38 fs) j_2 q)) (haf_1 : (m38 w_123 = m38 fs)) (e_346 : v_346 = ((nI j_2) - 1)) (hii1 : ii1 < j_2) (haii1_0 : (∀ q : Nat, q < 2 ^ (j_2 - ii1) → w_412 q = wVV j_5 j_2 (m38 fs) (j_2 - ii1) q)) (hsd : (1 : Int32) <<< (cdn j_2 ii1 &&& 31) = nI sd) (hsd8 : sd ≤ 8) (hii2 : ii2 < sd) (haii2_0 : (∀ q : Nat, q < ii2 → w_500 q = wVV j_5 j_2 (m38 fs) (j_2 - 1 - ii1) q)) (haii2_1 : (∀ q : Nat, 2 * ii2 ≤ q → q < 2 ^ (j_2 - ii1) → w_500 q = wVV j_5 j_2 (m38 fs) (j_2 - ii1) q)) (hMl : okM w_123 w9 k9 h9) (e_525 : v_525 = w_500 (2 * ii2)) (e_528 : v_528 = w_500 ((2 * ii2) + 1)) (c_529 : v_525 ≤ v_528) (e_530 : v_530 = ((cdn j_2 ii1) - (cdn j_2 ii1) / 2 * 2)) (c_531 : v_530 = 0) (hu_535 : g_535 = upd w_500 ii2 v_528) : (∀ q : Nat, 2 * (ii2 + 1) ≤ q → q < 2 ^ (j_2 - ii1) → g_535 q = wVV j_5 j_2 (m38 fs) (j_2 - ii1) q) := by
  exact by_5 haii2_1 hu_535
theorem lf_X8_byTurns_14 {mt : Int32} {ma : Nat} {fs : Nat → Int32} {w9 : Nat} {k9 : Nat} {h9 : Nat} {j_2 : Nat} {j_5 : Nat} {fan_8 : Nat → Int32} {sh : Nat} {z_11 : Nat} {w_122 : Nat → Int32} {w_123 : Nat → Int32} {v_346 : Int32} {w_412 : Nat → Int32} {ii1 : Nat} {sd : Nat} {w_500 : Nat → Int32} {ii2 : Nat} {v_525 : Int32} {v_528 : Int32} {v_536 : Int32} {g_539 : Nat → Int32} (hM : okM fs w9 k9 h9) (hT : ¬ mt = 0 → 1 ≤ k9) (h999 : h9 ≤ 999) (hT0 : mt = 0 → fs 0 = 0 ∧ ma = 0) (c_1 : ¬ (mt = 0)) (hkn1 : 1 ≤ k9) (hw1 : 1 ≤ w9) (h01 : ¬ fs 0 = 0) (f_2_1_0 : (¬ (((nI j_2)).toInt64 < 0 ∨ 4 < ((nI j_2)).toInt64))) (q_2 : ¬ ((nI j_2) < 0 ∨ 4 < (nI j_2))) (hj_2 : j_2 ≤ 4) (f_5_1_0 : (¬ (((nI j_5)).toInt64 < 1 ∨ 20 < ((nI j_5)).toInt64))) (q_5 : ¬ ((nI j_5) < 1 ∨ 20 < (nI j_5))) (hj_5 : j_5 ≤ 20) (hF_8_0 : (∀ j : Nat, j < 38 → fan_8 j = fs j)) (hsh : (1 : Int32) <<< (nI j_2 &&& 31) = nI sh) (hs4 : (j_2 ≤ 4 → sh ≤ 16)) (hz_11 : z_11 < w9) (hze_11 : z_11 = h9 % w9) (haf_0 : (∀ q : Nat, q < sh → w_122 q = wVV j_5 j_2 (m38 fs) j_2 q)) (haf_1 : (m38 w_123 = m38 fs)) (e_346 : v_346 = ((nI j_2) - 1)) (hii1 : ii1 < j_2) (haii1_0 : (∀ q : Nat, q < 2 ^ (j_2 - ii1) → w_412 q = wVV j_5 j_2 (m38 fs) (j_2 - ii1) q)) (hsd : (1 : Int32) <<< (cdn j_2 ii1 &&& 31) = nI sd) (hsd8 : sd ≤ 8) (hii2 : ii2 < sd) (haii2_0 : (∀ q : Nat, q < ii2 → w_500 q = wVV j_5 j_2 (m38 fs) (j_2 - 1 - ii1) q)) (haii2_1 : (∀ q : Nat, 2 * ii2 ≤ q → q < 2 ^ (j_2 - ii1) → w_500 q = wVV j_5 j_2 (m38 fs) (j_2 - ii1) q)) (hMl : okM w_123 w9 k9 h9) (e_525 : v_525 = w_500 (2 * ii2)) (e_528 : v_528 = w_500 ((2 * ii2) + 1)) (c_529 : ¬ (v_525 ≤ v_528)) (e_536 : v_536 = ((cdn j_2 ii1) - (cdn j_2 ii1) / 2 * 2)) (c_537 : ¬ (v_536 = 0)) (hu_539 : g_539 = upd w_500 ii2 v_528) : (∀ q : Nat, q < (ii2 + 1) → g_539 q = wVV j_5 j_2 (m38 fs) (j_2 - 1 - ii1) q) := by
  exact by_4 haii2_0 hu_539 ((cmb_3 _ c_529 (ev_f (fun q => c_537 ((cd_2 hj_2 hii1 e_536).mpr q)))).trans (by_two hii1 (by rw [← by_sd hj_2 hii1 hsd hsd8]; exact hii2) haii2_1 e_525 e_528).symm)
theorem lf_X8_byTurns_15 {mt : Int32} {ma : Nat} {fs : Nat → Int32} {w9 : Nat} {k9 : Nat} {h9 : Nat} {j_2 : Nat} {j_5 : Nat} {fan_8 : Nat → Int32} {sh : Nat} {z_11 : Nat} {w_122 : Nat → Int32} {w_123 : Nat → Int32} {v_346 : Int32} {w_412 : Nat → Int32} {ii1 : Nat} {sd : Nat} {w_500 : Nat → Int32} {ii2 : Nat} {v_525 : Int32} {v_528 : Int32} {v_536 : Int32} {g_539 : Nat → Int32} (hM : okM fs w9 k9 h9) (hT : ¬ mt = 0 → 1 ≤ k9) (h999 : h9 ≤ 999) (hT0 : mt = 0 → fs 0 = 0 ∧ ma = 0) (c_1 : ¬ (mt = 0)) (hkn1 : 1 ≤ k9) (hw1 : 1 ≤ w9) (h01 : ¬ fs 0 = 0) (f_2_1_0 : (¬ (((nI j_2)).toInt64 < 0 ∨ 4 < ((nI j_2)).toInt64))) (q_2 : ¬ ((nI j_2) < 0 ∨ 4 < (nI j_2))) (hj_2 : j_2 ≤ 4) (f_5_1_0 : (¬ (((nI j_5)).toInt64 < 1 ∨ 20 < ((nI j_5)).toInt64))) (q_5 : ¬ ((nI j_5) < 1 ∨ 20 < (nI j_5))) (hj_5 : j_5 ≤ 20) (hF_8_0 : (∀ j : Nat, j < 38 → fan_8 j = fs j)) (hsh : (1 : Int32) <<< (nI j_2 &&& 31) = nI sh) (hs4 : (j_2 ≤ 4 → sh ≤ 16)) (hz_11 : z_11 < w9) (hze_11 : z_11 = h9 % w9) (haf_0 : (∀ q : Nat, q < sh → w_122 q = wVV j_5 j_2 (m38 fs) j_2 q)) (haf_1 : (m38 w_123 = m38 fs)) (e_346 : v_346 = ((nI j_2) - 1)) (hii1 : ii1 < j_2) (haii1_0 : (∀ q : Nat, q < 2 ^ (j_2 - ii1) → w_412 q = wVV j_5 j_2 (m38 fs) (j_2 - ii1) q)) (hsd : (1 : Int32) <<< (cdn j_2 ii1 &&& 31) = nI sd) (hsd8 : sd ≤ 8) (hii2 : ii2 < sd) (haii2_0 : (∀ q : Nat, q < ii2 → w_500 q = wVV j_5 j_2 (m38 fs) (j_2 - 1 - ii1) q)) (haii2_1 : (∀ q : Nat, 2 * ii2 ≤ q → q < 2 ^ (j_2 - ii1) → w_500 q = wVV j_5 j_2 (m38 fs) (j_2 - ii1) q)) (hMl : okM w_123 w9 k9 h9) (e_525 : v_525 = w_500 (2 * ii2)) (e_528 : v_528 = w_500 ((2 * ii2) + 1)) (c_529 : ¬ (v_525 ≤ v_528)) (e_536 : v_536 = ((cdn j_2 ii1) - (cdn j_2 ii1) / 2 * 2)) (c_537 : ¬ (v_536 = 0)) (hu_539 : g_539 = upd w_500 ii2 v_528) : (∀ q : Nat, 2 * (ii2 + 1) ≤ q → q < 2 ^ (j_2 - ii1) → g_539 q = wVV j_5 j_2 (m38 fs) (j_2 - ii1) q) := by
  exact by_5 haii2_1 hu_539
theorem lf_X8_byTurns_16 {mt : Int32} {ma : Nat} {fs : Nat → Int32} {w9 : Nat} {k9 : Nat} {h9 : Nat} {j_2 : Nat} {j_5 : Nat} {fan_8 : Nat → Int32} {sh : Nat} {z_11 : Nat} {w_122 : Nat → Int32} {w_123 : Nat → Int32} {v_346 : Int32} {w_412 : Nat → Int32} {ii1 : Nat} {sd : Nat} {w_500 : Nat → Int32} {ii2 : Nat} {v_525 : Int32} {v_528 : Int32} {v_536 : Int32} {g_541 : Nat → Int32} (hM : okM fs w9 k9 h9) (hT : ¬ mt = 0 → 1 ≤ k9) (h999 : h9 ≤ 999) (hT0 : mt = 0 → fs 0 = 0 ∧ ma = 0) (c_1 : ¬ (mt = 0)) (hkn1 : 1 ≤ k9) (hw1 : 1 ≤ w9) (h01 : ¬ fs 0 = 0) (f_2_1_0 : (¬ (((nI j_2)).toInt64 < 0 ∨ 4 < ((nI j_2)).toInt64))) (q_2 : ¬ ((nI j_2) < 0 ∨ 4 < (nI j_2))) (hj_2 : j_2 ≤ 4) (f_5_1_0 : (¬ (((nI j_5)).toInt64 < 1 ∨ 20 < ((nI j_5)).toInt64))) (q_5 : ¬ ((nI j_5) < 1 ∨ 20 < (nI j_5))) (hj_5 : j_5 ≤ 20) (hF_8_0 : (∀ j : Nat, j < 38 → fan_8 j = fs j)) (hsh : (1 : Int32) <<< (nI j_2 &&& 31) = nI sh) (hs4 : (j_2 ≤ 4 → sh ≤ 16)) (hz_11 : z_11 < w9) (hze_11 : z_11 = h9 % w9) (haf_0 : (∀ q : Nat, q < sh → w_122 q = wVV j_5 j_2 (m38 fs) j_2 q)) (haf_1 : (m38 w_123 = m38 fs)) (e_346 : v_346 = ((nI j_2) - 1)) (hii1 : ii1 < j_2) (haii1_0 : (∀ q : Nat, q < 2 ^ (j_2 - ii1) → w_412 q = wVV j_5 j_2 (m38 fs) (j_2 - ii1) q)) (hsd : (1 : Int32) <<< (cdn j_2 ii1 &&& 31) = nI sd) (hsd8 : sd ≤ 8) (hii2 : ii2 < sd) (haii2_0 : (∀ q : Nat, q < ii2 → w_500 q = wVV j_5 j_2 (m38 fs) (j_2 - 1 - ii1) q)) (haii2_1 : (∀ q : Nat, 2 * ii2 ≤ q → q < 2 ^ (j_2 - ii1) → w_500 q = wVV j_5 j_2 (m38 fs) (j_2 - ii1) q)) (hMl : okM w_123 w9 k9 h9) (e_525 : v_525 = w_500 (2 * ii2)) (e_528 : v_528 = w_500 ((2 * ii2) + 1)) (c_529 : ¬ (v_525 ≤ v_528)) (e_536 : v_536 = ((cdn j_2 ii1) - (cdn j_2 ii1) / 2 * 2)) (c_537 : v_536 = 0) (hu_541 : g_541 = upd w_500 ii2 v_525) : (∀ q : Nat, q < (ii2 + 1) → g_541 q = wVV j_5 j_2 (m38 fs) (j_2 - 1 - ii1) q) := by
  exact by_4 haii2_0 hu_541 ((cmb_4 _ c_529 ((cd_2 hj_2 hii1 e_536).mp c_537)).trans (by_two hii1 (by rw [← by_sd hj_2 hii1 hsd hsd8]; exact hii2) haii2_1 e_525 e_528).symm)
theorem lf_X8_byTurns_17 {mt : Int32} {ma : Nat} {fs : Nat → Int32} {w9 : Nat} {k9 : Nat} {h9 : Nat} {j_2 : Nat} {j_5 : Nat} {fan_8 : Nat → Int32} {sh : Nat} {z_11 : Nat} {w_122 : Nat → Int32} {w_123 : Nat → Int32} {v_346 : Int32} {w_412 : Nat → Int32} {ii1 : Nat} {sd : Nat} {w_500 : Nat → Int32} {ii2 : Nat} {v_525 : Int32} {v_528 : Int32} {v_536 : Int32} {g_541 : Nat → Int32} (hM : okM fs w9 k9 h9) (hT : ¬ mt = 0 → 1 ≤ k9) (h999 : h9 ≤ 999) (hT0 : mt = 0 → fs 0 = 0 ∧ ma = 0) (c_1 : ¬ (mt = 0)) (hkn1 : 1 ≤ k9) (hw1 : 1 ≤ w9) (h01 : ¬ fs 0 = 0) (f_2_1_0 : (¬ (((nI j_2)).toInt64 < 0 ∨ 4 < ((nI j_2)).toInt64))) (q_2 : ¬ ((nI j_2) < 0 ∨ 4 < (nI j_2))) (hj_2 : j_2 ≤ 4) (f_5_1_0 : (¬ (((nI j_5)).toInt64 < 1 ∨ 20 < ((nI j_5)).toInt64))) (q_5 : ¬ ((nI j_5) < 1 ∨ 20 < (nI j_5))) (hj_5 : j_5 ≤ 20) (hF_8_0 : (∀ j : Nat, j < 38 → fan_8 j = fs j)) (hsh : (1 : Int32) <<< (nI j_2 &&& 31) = nI sh) (hs4 : (j_2 ≤ 4 → sh ≤ 16)) (hz_11 : z_11 < w9) (hze_11 : z_11 = h9 % w9) (haf_0 : (∀ q : Nat, q < sh → w_122 q = wVV j_5 j_2 (m38 fs) j_2 q)) (haf_1 : (m38 w_123 = m38 fs)) (e_346 : v_346 = ((nI j_2) - 1)) (hii1 : ii1 < j_2) (haii1_0 : (∀ q : Nat, q < 2 ^ (j_2 - ii1) → w_412 q = wVV j_5 j_2 (m38 fs) (j_2 - ii1) q)) (hsd : (1 : Int32) <<< (cdn j_2 ii1 &&& 31) = nI sd) (hsd8 : sd ≤ 8) (hii2 : ii2 < sd) (haii2_0 : (∀ q : Nat, q < ii2 → w_500 q = wVV j_5 j_2 (m38 fs) (j_2 - 1 - ii1) q)) (haii2_1 : (∀ q : Nat, 2 * ii2 ≤ q → q < 2 ^ (j_2 - ii1) → w_500 q = wVV j_5 j_2 (m38 fs) (j_2 - ii1) q)) (hMl : okM w_123 w9 k9 h9) (e_525 : v_525 = w_500 (2 * ii2)) (e_528 : v_528 = w_500 ((2 * ii2) + 1)) (c_529 : ¬ (v_525 ≤ v_528)) (e_536 : v_536 = ((cdn j_2 ii1) - (cdn j_2 ii1) / 2 * 2)) (c_537 : v_536 = 0) (hu_541 : g_541 = upd w_500 ii2 v_525) : (∀ q : Nat, 2 * (ii2 + 1) ≤ q → q < 2 ^ (j_2 - ii1) → g_541 q = wVV j_5 j_2 (m38 fs) (j_2 - ii1) q) := by
  exact by_5 haii2_1 hu_541
theorem lf_X8_byTurns_18 {mt : Int32} {ma : Nat} {fs : Nat → Int32} {w9 : Nat} {k9 : Nat} {h9 : Nat} {j_2 : Nat} {j_5 : Nat} {fan_8 : Nat → Int32} {sh : Nat} {z_11 : Nat} {w_122 : Nat → Int32} {w_123 : Nat → Int32} {v_346 : Int32} {w_412 : Nat → Int32} {ii1 : Nat} {sd : Nat} {w_500 : Nat → Int32} (hM : okM fs w9 k9 h9) (hT : ¬ mt = 0 → 1 ≤ k9) (h999 : h9 ≤ 999) (hT0 : mt = 0 → fs 0 = 0 ∧ ma = 0) (c_1 : ¬ (mt = 0)) (hkn1 : 1 ≤ k9) (hw1 : 1 ≤ w9) (h01 : ¬ fs 0 = 0) (f_2_1_0 : (¬ (((nI j_2)).toInt64 < 0 ∨ 4 < ((nI j_2)).toInt64))) (q_2 : ¬ ((nI j_2) < 0 ∨ 4 < (nI j_2))) (hj_2 : j_2 ≤ 4) (f_5_1_0 : (¬ (((nI j_5)).toInt64 < 1 ∨ 20 < ((nI j_5)).toInt64))) (q_5 : ¬ ((nI j_5) < 1 ∨ 20 < (nI j_5))) (hj_5 : j_5 ≤ 20) (hF_8_0 : (∀ j : Nat, j < 38 → fan_8 j = fs j)) (hsh : (1 : Int32) <<< (nI j_2 &&& 31) = nI sh) (hs4 : (j_2 ≤ 4 → sh ≤ 16)) (hz_11 : z_11 < w9) (hze_11 : z_11 = h9 % w9) (haf_0 : (∀ q : Nat, q < sh → w_122 q = wVV j_5 j_2 (m38 fs) j_2 q)) (haf_1 : (m38 w_123 = m38 fs)) (e_346 : v_346 = ((nI j_2) - 1)) (hii1 : ii1 < j_2) (haii1_0 : (∀ q : Nat, q < 2 ^ (j_2 - ii1) → w_412 q = wVV j_5 j_2 (m38 fs) (j_2 - ii1) q)) (hsd : (1 : Int32) <<< (cdn j_2 ii1 &&& 31) = nI sd) (hsd8 : sd ≤ 8) (haii2_0 : (∀ q : Nat, q < sd → w_500 q = wVV j_5 j_2 (m38 fs) (j_2 - 1 - ii1) q)) (haii2_1 : (∀ q : Nat, 2 * sd ≤ q → q < 2 ^ (j_2 - ii1) → w_500 q = wVV j_5 j_2 (m38 fs) (j_2 - ii1) q)) (hMl : okM w_123 w9 k9 h9) : (∀ q : Nat, q < 2 ^ (j_2 - (ii1 + 1)) → w_500 q = wVV j_5 j_2 (m38 fs) (j_2 - (ii1 + 1)) q) := by
  exact by_3 hj_2 hii1 hsd hsd8 haii2_0
theorem lf_X8_byTurns_19 {mt : Int32} {ma : Nat} {fs : Nat → Int32} {w9 : Nat} {k9 : Nat} {h9 : Nat} {j_2 : Nat} {j_5 : Nat} {fan_8 : Nat → Int32} {sh : Nat} {z_11 : Nat} {w_122 : Nat → Int32} {w_123 : Nat → Int32} {v_346 : Int32} {w_412 : Nat → Int32} {v_545 : Int32} (hM : okM fs w9 k9 h9) (hT : ¬ mt = 0 → 1 ≤ k9) (h999 : h9 ≤ 999) (hT0 : mt = 0 → fs 0 = 0 ∧ ma = 0) (c_1 : ¬ (mt = 0)) (hkn1 : 1 ≤ k9) (hw1 : 1 ≤ w9) (h01 : ¬ fs 0 = 0) (f_2_1_0 : (¬ (((nI j_2)).toInt64 < 0 ∨ 4 < ((nI j_2)).toInt64))) (q_2 : ¬ ((nI j_2) < 0 ∨ 4 < (nI j_2))) (hj_2 : j_2 ≤ 4) (f_5_1_0 : (¬ (((nI j_5)).toInt64 < 1 ∨ 20 < ((nI j_5)).toInt64))) (q_5 : ¬ ((nI j_5) < 1 ∨ 20 < (nI j_5))) (hj_5 : j_5 ≤ 20) (hF_8_0 : (∀ j : Nat, j < 38 → fan_8 j = fs j)) (hsh : (1 : Int32) <<< (nI j_2 &&& 31) = nI sh) (hs4 : (j_2 ≤ 4 → sh ≤ 16)) (hz_11 : z_11 < w9) (hze_11 : z_11 = h9 % w9) (haf_0 : (∀ q : Nat, q < sh → w_122 q = wVV j_5 j_2 (m38 fs) j_2 q)) (haf_1 : (m38 w_123 = m38 fs)) (e_346 : v_346 = ((nI j_2) - 1)) (haii1_0 : (∀ q : Nat, q < 2 ^ (j_2 - j_2) → w_412 q = wVV j_5 j_2 (m38 fs) (j_2 - j_2) q)) (hMl : okM w_123 w9 k9 h9) (e_545 : v_545 = w_412 0) : v_545 = (a_byt (m38 fs) (nI j_2) (nI j_5)) := by
  first
  | exact byt_0 h00
  | exact byt_n h01 (Or.inl q_2)
  | exact byt_n h01 (Or.inr q_5)
  | exact by_e h01 q_2 q_5 hj_2 hj_5 haii1_0 e_545
theorem lf_X8_byTurns_20 {mt : Int32} {ma : Nat} {fs : Nat → Int32} {w9 : Nat} {k9 : Nat} {h9 : Nat} {a0 : Int32} {a1 : Int32} (hM : okM fs w9 k9 h9) (hT : ¬ mt = 0 → 1 ≤ k9) (h999 : h9 ≤ 999) (hT0 : mt = 0 → fs 0 = 0 ∧ ma = 0) (c_1 : mt = 0) (h00 : fs 0 = 0) : (-1000002) = (a_byt (m38 fs) a0 a1) := by
  first
  | exact byt_0 h00
  | exact byt_n h01 (Or.inl q_2)
  | exact byt_n h01 (Or.inr q_5)
set_option maxHeartbeats 4000000 in
set_option maxRecDepth 100000 in
theorem r_X8_byTurns (l : Launch) (dC : Nat → ClassId) (dI : Nat → Nat → Nat) (cI cZ cL cJ : ClassId) (sz : Nat) (mo : Nat) (m_la : Nat) (m_sz : Nat) (m_it : Nat) (m_st : Nat) (m_mv : Nat) (m_tp : Nat) (m_rd : Nat) (m_ac : Nat) (m_as : Nat) (m_wo : Nat) (m_ik : Nat) (m_ke : Nat) (m_tr : Nat) (ms : Int32) (mt : Int32) (ml : Int32) (mk : Int32) (mv : Int32) (mb : Int32) (mw : Int32) (mz : Nat) (mp : Nat) (ma : Nat) (mx : Nat) (fs : Nat → Int32) (w9 : Nat) (k9 : Nat) (h9 : Nat) (fa : Nat → Int32) (fw : Nat → Int32) (a0 : Int32) (a1 : Int32) (hM : okM fs w9 k9 h9) (hT : ¬ mt = 0 → 1 ≤ k9) (h999 : h9 ≤ 999) (hT0 : mt = 0 → fs 0 = 0 ∧ ma = 0) : Met l yX8_byTurns wsX8_byTurns ({ frames := 6, cells := 0, slots := 0, locals := 139 }) (va_Pc [.ref mo, .int a0, .int a1] (fun U => U.heap.size = sz ∧ va_P (dC, dI) vwCl [(mo, .inr (8, [.ref m_la, .ref m_sz, .ref m_it, .int ms, .int mt, .ref m_st, .ref m_mv, .ref m_tp, .int (nI mz), .int ml, .int (nI mp), .int mk, .int mv, .int mb, .int mw, .ref m_rd, .ref m_ac, .int (nI ma), .ref m_as, .ref m_wo, .ref m_ik, .ref m_ke, .ref m_tr, .int (nI mx)])), (m_st, .inl (cI, 38, .inl fs)), (m_as, .inl (cI, 38, .inl fa)), (m_wo, .inl (cI, 16, .inl fw))] U.heap ∧ va_K (dC, dI) vwCl [(cI, .int), (cZ, .boolean), (cL, .object RX3), (cJ, .array .int)] U ∧ va_D (fun _ => True) [(mo, .inr (8, [.ref m_la, .ref m_sz, .ref m_it, .int ms, .int mt, .ref m_st, .ref m_mv, .ref m_tp, .int (nI mz), .int ml, .int (nI mp), .int mk, .int mv, .int mb, .int mw, .ref m_rd, .ref m_ac, .int (nI ma), .ref m_as, .ref m_wo, .ref m_ik, .ref m_ke, .ref m_tr, .int (nI mx)])), (m_st, .inl (cI, 38, .inl fs)), (m_as, .inl (cI, 38, .inl fa)), (m_wo, .inl (cI, 16, .inl fw))])) (va_Qi (fun r (_ : Unit) => r = (a_byt (m38 fs) a0 a1)) (fun (_ : Unit) t => ∃ (fsn : Nat → Int32) (fan : Nat → Int32) (fwn : Nat → Int32), va_P (dC, dI) vwCl [(mo, .inr (8, [.ref m_la, .ref m_sz, .ref m_it, .int ms, .int mt, .ref m_st, .ref m_mv, .ref m_tp, .int (nI mz), .int ml, .int (nI mp), .int mk, .int mv, .int mb, .int mw, .ref m_rd, .ref m_ac, .int (nI ma), .ref m_as, .ref m_wo, .ref m_ik, .ref m_ke, .ref m_tr, .int (nI mx)])), (m_st, .inl (cI, 38, .inl fsn)), (m_as, .inl (cI, 38, .inl fan)), (m_wo, .inl (cI, 16, .inl fwn))] t.heap ∧ va_D (va_A [(mo, .inr (8, [.ref m_la, .ref m_sz, .ref m_it, .int ms, .int mt, .ref m_st, .ref m_mv, .ref m_tp, .int (nI mz), .int ml, .int (nI mp), .int mk, .int mv, .int mb, .int mw, .ref m_rd, .ref m_ac, .int (nI ma), .ref m_as, .ref m_wo, .ref m_ik, .ref m_ke, .ref m_tr, .int (nI mx)])), (m_st, .inl (cI, 38, .inl fs)), (m_as, .inl (cI, 38, .inl fa)), (m_wo, .inl (cI, 16, .inl fw))] sz) [(mo, .inr (8, [.ref m_la, .ref m_sz, .ref m_it, .int ms, .int mt, .ref m_st, .ref m_mv, .ref m_tp, .int (nI mz), .int ml, .int (nI mp), .int mk, .int mv, .int mb, .int mw, .ref m_rd, .ref m_ac, .int (nI ma), .ref m_as, .ref m_wo, .ref m_ik, .ref m_ke, .ref m_tr, .int (nI mx)])), (m_st, .inl (cI, 38, .inl fsn)), (m_as, .inl (cI, 38, .inl fan)), (m_wo, .inl (cI, 16, .inl fwn))] ∧ okM fsn w9 k9 h9 ∧ m38 fsn = m38 fs) (va_A [(mo, .inr (8, [.ref m_la, .ref m_sz, .ref m_it, .int ms, .int mt, .ref m_st, .ref m_mv, .ref m_tp, .int (nI mz), .int ml, .int (nI mp), .int mk, .int mv, .int mb, .int mw, .ref m_rd, .ref m_ac, .int (nI ma), .ref m_as, .ref m_wo, .ref m_ik, .ref m_ke, .ref m_tr, .int (nI mx)])), (m_st, .inl (cI, 38, .inl fs)), (m_as, .inl (cI, 38, .inl fa)), (m_wo, .inl (cI, 16, .inl fw))] sz)) 0 0 (va_A [(mo, .inr (8, [.ref m_la, .ref m_sz, .ref m_it, .int ms, .int mt, .ref m_st, .ref m_mv, .ref m_tp, .int (nI mz), .int ml, .int (nI mp), .int mk, .int mv, .int mb, .int mw, .ref m_rd, .ref m_ac, .int (nI ma), .ref m_as, .ref m_wo, .ref m_ik, .ref m_ke, .ref m_tr, .int (nI mx)])), (m_st, .inl (cI, 38, .inl fs)), (m_as, .inl (cI, 38, .inl fa)), (m_wo, .inl (cI, 16, .inl fw))] sz) := by
  refine Met.ofW (cc := cX8_byTurns) (maxL := 8) (ret := (some .int)) (by decide) rfl ?_
  intro p e s m args below meth c s₁ B hml hv
  obtain ⟨rfl, hsz, hP, hK, hD0⟩ := hv
  have hx := B.exec
  have hb := B.bytes
  have hr := B.returns
  have hts := atoms_spec (ws := wsX8_byTurns) B.pre
  have hown : s.vm.findClass RX8 = some m.cls := findClass_of_methodNamed B.named
  have hlocks := B.notSynchronized
  subst hsz
  have hD := hD0.self (sz := s.heap.size)
  generalize hAe : va_A [(mo, .inr (8, [.ref m_la, .ref m_sz, .ref m_it, .int ms, .int mt, .ref m_st, .ref m_mv, .ref m_tp, .int (nI mz), .int ml, .int (nI mp), .int mk, .int mv, .int mb, .int mw, .ref m_rd, .ref m_ac, .int (nI ma), .ref m_as, .ref m_wo, .ref m_ik, .ref m_ke, .ref m_tr, .int (nI mx)])), (m_st, .inl (cI, 38, .inl fs)), (m_as, .inl (cI, 38, .inl fa)), (m_wo, .inl (cI, 16, .inl fw))] s.heap.size = A at hD ⊢
  have hA : ∀ q : Nat, s.heap.size ≤ q → A q := fun q h => by rw [← hAe]; exact Or.inr h
  have hS : va_S A s.heap s.heap [] := va_S.rf
  have hP : va_P (dC, dI) vwCl [(mo, .inr (8, [.ref m_la, .ref m_sz, .ref m_it, .int ms, .int mt, .ref m_st, .ref m_mv, .ref m_tp, .int (nI mz), .int ml, .int (nI mp), .int mk, .int mv, .int mb, .int mw, .ref m_rd, .ref m_ac, .int (nI ma), .ref m_as, .ref m_wo, .ref m_ik, .ref m_ke, .ref m_tr, .int (nI mx)])), (m_st, .inl (cI, 38, .inl fs)), (m_as, .inl (cI, 38, .inl fa)), (m_wo, .inl (cI, 16, .inl fw))] s.heap := hP
  have hl := lv_entry ([.ref mo, .int a0, .int a1]) (n := 8) (Nat.le_of_ble_eq_true rfl)
  rw [lg_entry_eq]
  generalize (lg_sl ([.ref mo, .int a0, .int a1]) ++ List.replicate (8 - (lg_sl ([.ref mo, .int a0, .int a1])).length) Slot.unset).toArray = ls at hl ⊢
  have hl : lv_has ls 8 [(0, .ref mo), (1, .int a0), (2, .int a1)] := hl
  have hk6 := hM.2.2.2.2.1
  have hw6 := hM.2.2.2.1
  refine lv_aload_n hx hb dX8_byTurns_0 rfl (lv_at hl 0 rfl) ?_
  refine va_get (D := (dC, dI)) (ci := 8) (v := .int mt) (C := RX8) (T := TX8) (N := 24) hx hb hts i_X8_byTurns_X8 hown hK hP 0 rfl rfl 4 (by decide) (hts (.fieldLink RX8 138 "MillTalkModel" "isThere" "Z") (by decide +kernel)) (fun _ h9 => h9) rfl dX8_byTurns_1 ?_
  refine lv_if_ne (tgt := 10) hx hb dX8_byTurns_4 (by decide) (fun c_1 => ?_) (fun c_1 => ?_)
  · skip
    have hkn1 := hT c_1
    have hw1 := hM.2.2.2.2.2.1.mp hkn1
    have h01 : ¬ fs 0 = 0 := cell_nz hM hkn1
    refine lv_iload_n hx hb dX8_byTurns_10 rfl (lv_at hl 1 rfl) ?_
    refine lv_i2l hx hb dX8_byTurns_11 rfl ?_
    refine lv_lconst (v := 0) hx hb dX8_byTurns_12 (by decide) ?_
    refine lv_ldc2 (own := RX8) (v := 4) hx hb hown (hts (.constantLong RX8 171 (4)) (by decide +kernel)) dX8_byTurns_13 ?_
    have hPc_2 := hP.sub (ws' := []) [] rfl
    refine vp_callSi (W.runS (As := [.long (a0).toInt64, .long 0, .long 4]) (rest := []) ⟨hx, hb, hml, hown, hts⟩ (r_X8_in l dC dI cI cZ cL cJ ((a0).toInt64) 0 4 ) (va_cwS 3 hts gX8_byTurns_X8_in rfl rfl rfl (by decide +kernel) ⟨Nat.le_of_ble_eq_true rfl, Nat.le_of_ble_eq_true rfl⟩) ⟨fun a U g mk q => by obtain ⟨q0, qP, qK⟩ := q; exact ⟨q0, qP, va_K.moved (u := U) (U := U.calling g mk a) (Vm.Alike.refl U.vm) qK⟩, fun U hU hW => ⟨rfl, by rw [hU]; exact hPc_2, va_K.moved hW.alike hK⟩⟩ rfl rfl hl.1 rfl (lv_room (Nat.le_of_ble_eq_true rfl)) dX8_byTurns_16 ⟨Nat.le_of_ble_eq_true rfl, Nat.le_of_ble_eq_true rfl⟩) (fun r_2 h_2 => ?_)
    rcases h_2 with ⟨h_2, f_2_0_0⟩ | ⟨h_2, f_2_1_0⟩
    · subst h_2
      have q_2 : (a0 < 0 ∨ 4 < a0) := (in32 (x := a0) (l := 0) (u := 4) (by decide) (by decide)).mp f_2_0_0
      refine lv_if_eq (tgt := 34) hx hb dX8_byTurns_19 (by decide) (fun _ => ?_) (fun c_ => absurd (by decide) c_)
      refine lv_ldc (own := RX8) (v := (-1000001)) hx hb hown (hts (.constant RX8 67 (-1000001)) (by decide +kernel)) dX8_byTurns_34 ?_
      have hX9 := cut2 (wc := [(mo, .inr (8, [.ref m_la, .ref m_sz, .ref m_it, .int ms, .int mt, .ref m_st, .ref m_mv, .ref m_tp, .int (nI mz), .int ml, .int (nI mp), .int mk, .int mv, .int mb, .int mw, .ref m_rd, .ref m_ac, .int (nI ma), .ref m_as, .ref m_wo, .ref m_ik, .ref m_ke, .ref m_tr, .int (nI mx)])), (m_st, .inl (cI, 38, .inl fs)), (m_as, .inl (cI, 38, .inl fa)), (m_wo, .inl (cI, 16, .inl fw))]) hP hD [0, 1, 2, 3] (by decide +kernel) rfl
      exact W.iret (v := (-1000001)) hx hb hr (fun t ht hW => ⟨⟨(-1000001), (), rfl, (lf_X8_byTurns_1 hM hT h999 hT0 c_1 hkn1 hw1 h01 f_2_0_0 q_2), ⟨fs, fa, fw, by rw [ht]; exact hX9.1, hX9.2, hM, rfl⟩⟩, hS.F ht⟩) hS.2.2 dX8_byTurns_36
    · subst h_2
      have q_2 : ¬ (a0 < 0 ∨ 4 < a0) := fun q_ => f_2_1_0 ((in32 (x := a0) (l := 0) (u := 4) (by decide) (by decide)).mpr q_)
      obtain ⟨j_2, hj_2, hl_2, rfl⟩ := in64 (lo := 0) (n := 4) rfl rfl (by decide) f_2_1_0
      refine lv_if_eq (tgt := 34) hx hb dX8_byTurns_19 (by decide) (fun c_ => absurd c_ (by decide)) (fun _ => ?_)
      refine lv_iload_n hx hb dX8_byTurns_22 rfl (lv_at hl 2 rfl) ?_
      refine lv_i2l hx hb dX8_byTurns_23 rfl ?_
      refine lv_lconst (v := 1) hx hb dX8_byTurns_24 (by decide) ?_
      refine lv_ldc2 (own := RX8) (v := 20) hx hb hown (hts (.constantLong RX8 176 (20)) (by decide +kernel)) dX8_byTurns_25 ?_
      have hPc_5 := hP.sub (ws' := []) [] rfl
      refine vp_callSi (W.runS (As := [.long (a1).toInt64, .long 1, .long 20]) (rest := []) ⟨hx, hb, hml, hown, hts⟩ (r_X8_in l dC dI cI cZ cL cJ ((a1).toInt64) 1 20 ) (va_cwS 3 hts gX8_byTurns_X8_in rfl rfl rfl (by decide +kernel) ⟨Nat.le_of_ble_eq_true rfl, Nat.le_of_ble_eq_true rfl⟩) ⟨fun a U g mk q => by obtain ⟨q0, qP, qK⟩ := q; exact ⟨q0, qP, va_K.moved (u := U) (U := U.calling g mk a) (Vm.Alike.refl U.vm) qK⟩, fun U hU hW => ⟨rfl, by rw [hU]; exact hPc_5, va_K.moved hW.alike hK⟩⟩ rfl rfl hl.1 rfl (lv_room (Nat.le_of_ble_eq_true rfl)) dX8_byTurns_28 ⟨Nat.le_of_ble_eq_true rfl, Nat.le_of_ble_eq_true rfl⟩) (fun r_5 h_5 => ?_)
      rcases h_5 with ⟨h_5, f_5_0_0⟩ | ⟨h_5, f_5_1_0⟩
      · subst h_5
        have q_5 : (a1 < 1 ∨ 20 < a1) := (in32 (x := a1) (l := 1) (u := 20) (by decide) (by decide)).mp f_5_0_0
        refine lv_if_ne (tgt := 37) hx hb dX8_byTurns_31 (by decide) (fun c_ => absurd (by decide) c_) (fun _ => ?_)
        refine lv_ldc (own := RX8) (v := (-1000001)) hx hb hown (hts (.constant RX8 67 (-1000001)) (by decide +kernel)) dX8_byTurns_34 ?_
        have hX9 := cut2 (wc := [(mo, .inr (8, [.ref m_la, .ref m_sz, .ref m_it, .int ms, .int mt, .ref m_st, .ref m_mv, .ref m_tp, .int (nI mz), .int ml, .int (nI mp), .int mk, .int mv, .int mb, .int mw, .ref m_rd, .ref m_ac, .int (nI ma), .ref m_as, .ref m_wo, .ref m_ik, .ref m_ke, .ref m_tr, .int (nI mx)])), (m_st, .inl (cI, 38, .inl fs)), (m_as, .inl (cI, 38, .inl fa)), (m_wo, .inl (cI, 16, .inl fw))]) hP hD [0, 1, 2, 3] (by decide +kernel) rfl
        exact W.iret (v := (-1000001)) hx hb hr (fun t ht hW => ⟨⟨(-1000001), (), rfl, (lf_X8_byTurns_2 hM hT h999 hT0 c_1 hkn1 hw1 h01 f_2_1_0 q_2 hj_2 f_5_0_0 q_5), ⟨fs, fa, fw, by rw [ht]; exact hX9.1, hX9.2, hM, rfl⟩⟩, hS.F ht⟩) hS.2.2 dX8_byTurns_36
      · subst h_5
        have q_5 : ¬ (a1 < 1 ∨ 20 < a1) := fun q_ => f_5_1_0 ((in32 (x := a1) (l := 1) (u := 20) (by decide) (by decide)).mpr q_)
        obtain ⟨j_5, hj_5, hl_5, rfl⟩ := in64 (lo := 1) (n := 20) rfl rfl (by decide) f_5_1_0
        refine lv_if_ne (tgt := 37) hx hb dX8_byTurns_31 (by decide) (fun _ => ?_) (fun c_ => absurd c_ (by decide))
        refine lv_aload_n hx hb dX8_byTurns_37 rfl (lv_at hl 0 rfl) ?_
        have hc_8 := cutW (wc := [(mo, .inr (8, [.ref m_la, .ref m_sz, .ref m_it, .int ms, .int mt, .ref m_st, .ref m_mv, .ref m_tp, .int (nI mz), .int ml, .int (nI mp), .int mk, .int mv, .int mb, .int mw, .ref m_rd, .ref m_ac, .int (nI ma), .ref m_as, .ref m_wo, .ref m_ik, .ref m_ke, .ref m_tr, .int (nI mx)])), (m_st, .inl (cI, 38, .inl fs)), (m_as, .inl (cI, 38, .inl fa))]) hP hD hS hA [0, 1, 2] (by decide +kernel) rfl
        refine va_callv (va_runV (As := []) (rest := []) ⟨hx, hb, hml, hown, hts⟩ (r_X8_putAside l dC dI cI cZ cL cJ s.heap.size mo m_la m_sz m_it m_st m_mv m_tp m_rd m_ac m_as m_wo m_ik m_ke m_tr ms mt ml mk mv mb mw mz mp ma mx fs fa ) (cwV 0 hts gX8_byTurns_X8_putAside rfl rfl rfl (by decide +kernel) ⟨Nat.le_of_ble_eq_true rfl, Nat.le_of_ble_eq_true rfl⟩) ⟨fun a U g mk q => by obtain ⟨q0, q1, qP, qK, qD⟩ := q; exact ⟨q0, q1, qP, va_K.moved (u := U) (U := U.calling g mk a) (Vm.Alike.refl U.vm) qK, qD⟩, va_recv hK hP (ci := 8) (q0 := 0) rfl rfl, fun U hU hW => ⟨rfl, by rw [hU], by rw [hU]; exact hc_8.1, va_K.moved hW.alike hK, hc_8.2.1.weaken (fun _ _ _ _ => trivial)⟩⟩ rfl rfl hl.1 rfl (lv_room (Nat.le_of_ble_eq_true rfl)) dX8_byTurns_38 ⟨Nat.le_of_ble_eq_true rfl, Nat.le_of_ble_eq_true rfl⟩) hS (fun q _ h => hc_8.2.2 q h) hc_8.2.2 (fun u_8 t_8 H1 locs ht hvm h_8 hB hz1 hk1 hS => ?_)
        obtain ⟨fan_8, hP1, hD1, hF_8_0⟩ := hB
        rw [ht] at hP1
        obtain ⟨hP, hD⟩ := va_join (wr := [(m_wo, .inl (cI, 16, .inl fw))]) (w1 := [(mo, .inr (8, [.ref m_la, .ref m_sz, .ref m_it, .int ms, .int mt, .ref m_st, .ref m_mv, .ref m_tp, .int (nI mz), .int ml, .int (nI mp), .int mk, .int mv, .int mb, .int mw, .ref m_rd, .ref m_ac, .int (nI ma), .ref m_as, .ref m_wo, .ref m_ik, .ref m_ke, .ref m_tr, .int (nI mx)])), (m_st, .inl (cI, 38, .inl fs)), (m_as, .inl (cI, 38, .inl fan_8))]) hP hD [0, 1, 2] [3] rfl rfl (by decide +kernel) (by decide +kernel) hk1 hc_8.2.2 hP1 hD1
        generalize H1 = H at hP hS ⊢
        have hP : va_P (dC, dI) vwCl [(m_wo, .inl (cI, 16, .inl fw)), (mo, .inr (8, [.ref m_la, .ref m_sz, .ref m_it, .int ms, .int mt, .ref m_st, .ref m_mv, .ref m_tp, .int (nI mz), .int ml, .int (nI mp), .int mk, .int mv, .int mb, .int mw, .ref m_rd, .ref m_ac, .int (nI ma), .ref m_as, .ref m_wo, .ref m_ik, .ref m_ke, .ref m_tr, .int (nI mx)])), (m_st, .inl (cI, 38, .inl fs)), (m_as, .inl (cI, 38, .inl fan_8))] H := hP
        have hD := dto hP hD
        have hA_8 := okM_eq hM hF_8_0
        obtain ⟨sh, hsh, hsb, hs4, hs5, hs6⟩ := shl8 j_2 (by omega)
        refine lv_bipush (v := 8) hx hb dX8_byTurns_41 (by decide) ?_
        refine lv_aload_n hx hb dX8_byTurns_43 rfl (lv_at hl 0 rfl) ?_
        refine va_get (D := (dC, dI)) (ci := 8) (v := .ref m_st) (C := RX8) (T := TX8) (N := 24) hx hb hts i_X8_byTurns_X8 hown hK hP 1 rfl rfl 5 (by decide) (hts (.fieldLink RX8 19 "MillTalkModel" "st" "[I") (by decide +kernel)) (fun _ h9 => h9) rfl dX8_byTurns_44 ?_
        refine lv_iconst (v := 5) hx hb dX8_byTurns_47 (by decide) ?_
        refine va_iald hx hb hK hP 2 0 rfl rfl (by unfold vp_in; decide) dX8_byTurns_48 ?_
        refine lv_topi (fun v_9 e_9 => ?_)
        obtain rfl : v_9 = (nI h9) := (e_9).trans hM.2.2.1
        refine lv_aload_n hx hb dX8_byTurns_49 rfl (lv_at hl 0 rfl) ?_
        refine va_get (D := (dC, dI)) (ci := 8) (v := .ref m_st) (C := RX8) (T := TX8) (N := 24) hx hb hts i_X8_byTurns_X8 hown hK hP 1 rfl rfl 5 (by decide) (hts (.fieldLink RX8 19 "MillTalkModel" "st" "[I") (by decide +kernel)) (fun _ h9 => h9) rfl dX8_byTurns_50 ?_
        refine lv_iconst (v := 3) hx hb dX8_byTurns_53 (by decide) ?_
        refine va_iald hx hb hK hP 2 0 rfl rfl (by unfold vp_in; decide) dX8_byTurns_54 ?_
        refine lv_topi (fun v_10 e_10 => ?_)
        obtain rfl : v_10 = (nI w9) := (e_10).trans hM.1
        refine lv_irem hx hb dX8_byTurns_55 (nI_ne0 (by omega) (by omega)) ?_
        refine lv_topi (fun v_11 e_11 => ?_)
        obtain ⟨z_11, hz_11, hze_11, rfl⟩ : ∃ z : Nat, z < w9 ∧ z = h9 % w9 ∧ v_11 = nI z := ⟨h9 % w9, Nat.mod_lt _ (by omega), rfl, e_11.trans (pk_rem (a := h9) (d := w9) (by omega) (by omega) (by omega))⟩
        refine lv_iadd hx hb dX8_byTurns_56 ?_
        refine lv_topi (fun v_12 e_12 => ?_)
        obtain rfl : v_12 = (nI (8 + z_11)) := (e_12).trans (nI_add 8 z_11)
        refine lv_istore_n (lv' := [(3, .int (nI (8 + z_11))), (0, .ref mo), (1, .int (nI j_2)), (2, .int (nI j_5))]) hx hb dX8_byTurns_57 rfl hl (by decide) rfl (fun ls hl => ?_)
        refine lv_iconst (v := 0) hx hb dX8_byTurns_58 (by decide) ?_
        refine lv_istore (lv' := [(4, .int 0), (3, .int (nI (8 + z_11))), (0, .ref mo), (1, .int (nI j_2)), (2, .int (nI j_5))]) hx hb dX8_byTurns_59 hl (by decide) rfl (fun ls hl => ?_)
        refine lp_go (σ := (Nat → Int32) × (Nat → Int32)) (fun ii (st : (Nat → Int32) × (Nat → Int32)) H locs ls => match st with | (w_122, w_123) => lv_has ls 8 [(4, .int (nI ii)), (3, .int (nI (8 + z_11))), (0, .ref mo), (1, .int (nI j_2)), (2, .int (nI j_5))] ∧ va_P (dC, dI) vwCl [(m_wo, .inl (cI, 16, .inl w_122)), (mo, .inr (8, [.ref m_la, .ref m_sz, .ref m_it, .int ms, .int mt, .ref m_st, .ref m_mv, .ref m_tp, .int (nI mz), .int ml, .int (nI mp), .int mk, .int mv, .int mb, .int mw, .ref m_rd, .ref m_ac, .int (nI ma), .ref m_as, .ref m_wo, .ref m_ik, .ref m_ke, .ref m_tr, .int (nI mx)])), (m_st, .inl (cI, 38, .inl w_123)), (m_as, .inl (cI, 38, .inl fan_8))] H ∧ va_D A [(m_wo, .inl (cI, 16, .inl w_122)), (mo, .inr (8, [.ref m_la, .ref m_sz, .ref m_it, .int ms, .int mt, .ref m_st, .ref m_mv, .ref m_tp, .int (nI mz), .int ml, .int (nI mp), .int mk, .int mv, .int mb, .int mw, .ref m_rd, .ref m_ac, .int (nI ma), .ref m_as, .ref m_wo, .ref m_ik, .ref m_ke, .ref m_tr, .int (nI mx)])), (m_st, .inl (cI, 38, .inl w_123)), (m_as, .inl (cI, 38, .inl fan_8))] ∧ va_S A s.heap H locs ∧ okM w_123 w9 k9 h9 ∧ (∀ q : Nat, q < ii → w_122 q = wVV j_5 j_2 (m38 fs) j_2 q) ∧ (m38 w_123 = m38 fs)) sh ?_ ?_ 0 (by omega) (fw, fs) ⟨lv_sub hl [0, 1, 2, 3, 4] rfl, hP.sub (ws' := [(m_wo, .inl (cI, 16, .inl fw)), (mo, .inr (8, [.ref m_la, .ref m_sz, .ref m_it, .int ms, .int mt, .ref m_st, .ref m_mv, .ref m_tp, .int (nI mz), .int ml, .int (nI mp), .int mk, .int mv, .int mb, .int mw, .ref m_rd, .ref m_ac, .int (nI ma), .ref m_as, .ref m_wo, .ref m_ik, .ref m_ke, .ref m_tr, .int (nI mx)])), (m_st, .inl (cI, 38, .inl fs)), (m_as, .inl (cI, 38, .inl fan_8))]) [0, 1, 2, 3] rfl, hD.sub (ws' := [(m_wo, .inl (cI, 16, .inl fw)), (mo, .inr (8, [.ref m_la, .ref m_sz, .ref m_it, .int ms, .int mt, .ref m_st, .ref m_mv, .ref m_tp, .int (nI mz), .int ml, .int (nI mp), .int mk, .int mv, .int mb, .int mw, .ref m_rd, .ref m_ac, .int (nI ma), .ref m_as, .ref m_wo, .ref m_ik, .ref m_ke, .ref m_tr, .int (nI mx)])), (m_st, .inl (cI, 38, .inl fs)), (m_as, .inl (cI, 38, .inl fan_8))]) [0, 1, 2, 3] (by decide +kernel) rfl, hS, hM, (fun q h_ => absurd h_ (Nat.not_lt_zero q)), rfl⟩
        · rintro ii ⟨w_122, w_123⟩ H locs ls hii ⟨hl, hP, hD, hS, hMl, haf_0, haf_1⟩ ih
          refine lv_iload hx hb dX8_byTurns_61 (lv_at hl 0 rfl) ?_
          refine lv_iconst (v := 1) hx hb dX8_byTurns_63 (by decide) ?_
          refine lv_iload_n hx hb dX8_byTurns_64 rfl (lv_at hl 3 rfl) ?_
          refine lv_ishl hx hb dX8_byTurns_65 ?_
          refine lv_topi (fun v_235 e_235 => ?_)
          obtain rfl : v_235 = (nI sh) := (e_235).trans hsh
          refine lv_icmp_ge (tgt := 189) hx hb dX8_byTurns_66 (by decide) (fun c_ => absurd c_ (fun q_ => absurd ((nI_leI (a := sh) (b := ii) (by omega) (by omega)).mp q_) (by omega))) (fun _ => ?_)
          refine lv_iconst (v := 0) hx hb dX8_byTurns_69 (by decide) ?_
          refine lv_istore (lv' := [(5, .int 0), (4, .int (nI ii)), (3, .int (nI (8 + z_11))), (0, .ref mo), (1, .int (nI j_2)), (2, .int (nI j_5))]) hx hb dX8_byTurns_70 hl (by decide) rfl (fun ls hl => ?_)
          refine lp_go (σ := (Nat → Int32)) (fun ii1 (st : (Nat → Int32)) H locs ls => match st with | w_271 => lv_has ls 8 [(5, .int (nI ii1)), (4, .int (nI ii)), (3, .int (nI (8 + z_11))), (0, .ref mo), (1, .int (nI j_2)), (2, .int (nI j_5))] ∧ va_P (dC, dI) vwCl [(m_wo, .inl (cI, 16, .inl w_122)), (mo, .inr (8, [.ref m_la, .ref m_sz, .ref m_it, .int ms, .int mt, .ref m_st, .ref m_mv, .ref m_tp, .int (nI mz), .int ml, .int (nI mp), .int mk, .int mv, .int mb, .int mw, .ref m_rd, .ref m_ac, .int (nI ma), .ref m_as, .ref m_wo, .ref m_ik, .ref m_ke, .ref m_tr, .int (nI mx)])), (m_st, .inl (cI, 38, .inl w_271)), (m_as, .inl (cI, 38, .inl fan_8))] H ∧ va_D A [(m_wo, .inl (cI, 16, .inl w_122)), (mo, .inr (8, [.ref m_la, .ref m_sz, .ref m_it, .int ms, .int mt, .ref m_st, .ref m_mv, .ref m_tp, .int (nI mz), .int ml, .int (nI mp), .int mk, .int mv, .int mb, .int mw, .ref m_rd, .ref m_ac, .int (nI ma), .ref m_as, .ref m_wo, .ref m_ik, .ref m_ke, .ref m_tr, .int (nI mx)])), (m_st, .inl (cI, 38, .inl w_271)), (m_as, .inl (cI, 38, .inl fan_8))] ∧ va_S A s.heap H locs ∧ okM w_271 w9 k9 h9 ∧ (m38 w_271 = plS (m38 fs) ii1 (ii / 2 ^ (j_2 - ii1)))) j_2 ?_ ?_ 0 (by omega) (w_123) ⟨lv_sub hl [0, 1, 2, 3, 4, 5] rfl, hP.sub (ws' := [(m_wo, .inl (cI, 16, .inl w_122)), (mo, .inr (8, [.ref m_la, .ref m_sz, .ref m_it, .int ms, .int mt, .ref m_st, .ref m_mv, .ref m_tp, .int (nI mz), .int ml, .int (nI mp), .int mk, .int mv, .int mb, .int mw, .ref m_rd, .ref m_ac, .int (nI ma), .ref m_as, .ref m_wo, .ref m_ik, .ref m_ke, .ref m_tr, .int (nI mx)])), (m_st, .inl (cI, 38, .inl w_123)), (m_as, .inl (cI, 38, .inl fan_8))]) [0, 1, 2, 3] rfl, hD.sub (ws' := [(m_wo, .inl (cI, 16, .inl w_122)), (mo, .inr (8, [.ref m_la, .ref m_sz, .ref m_it, .int ms, .int mt, .ref m_st, .ref m_mv, .ref m_tp, .int (nI mz), .int ml, .int (nI mp), .int mk, .int mv, .int mb, .int mw, .ref m_rd, .ref m_ac, .int (nI ma), .ref m_as, .ref m_wo, .ref m_ik, .ref m_ke, .ref m_tr, .int (nI mx)])), (m_st, .inl (cI, 38, .inl w_123)), (m_as, .inl (cI, 38, .inl fan_8))]) [0, 1, 2, 3] (by decide +kernel) rfl, hS, hMl, haf_1⟩
          · rintro ii1 w_271 H locs ls hii1 ⟨hl, hP, hD, hS, hMl, haii1_0⟩ ih
            refine lv_iload hx hb dX8_byTurns_72 (lv_at hl 0 rfl) ?_
            refine lv_iload_n hx hb dX8_byTurns_74 rfl (lv_at hl 4 rfl) ?_
            refine lv_icmp_ge (tgt := 171) hx hb dX8_byTurns_75 (by decide) (fun c_ => absurd c_ (fun q_ => absurd ((nI_leI (a := j_2) (b := ii1) (by omega) (by omega)).mp q_) (by omega))) (fun _ => ?_)
            refine lv_iload hx hb dX8_byTurns_78 (lv_at hl 1 rfl) ?_
            refine lv_iload_n hx hb dX8_byTurns_80 rfl (lv_at hl 4 rfl) ?_
            refine lv_iconst (v := 1) hx hb dX8_byTurns_81 (by decide) ?_
            refine lv_isub hx hb dX8_byTurns_82 ?_
            refine lv_topi (fun v_308 e_308 => ?_)
            refine lv_iload hx hb dX8_byTurns_83 (lv_at hl 0 rfl) ?_
            refine lv_isub hx hb dX8_byTurns_85 ?_
            refine lv_topi (fun v_309 e_309 => ?_)
            have hPc_310 := hP.sub (ws' := []) [] rfl
            refine vp_callSi (W.runS (As := [.int (nI ii), .int v_309]) (rest := []) ⟨hx, hb, hml, hown, hts⟩ (r_X8_has l dC dI cI cZ cL cJ (nI ii) v_309 ) (va_cwS 2 hts gX8_byTurns_X8_has rfl rfl rfl (by decide +kernel) ⟨Nat.le_of_ble_eq_true rfl, Nat.le_of_ble_eq_true rfl⟩) ⟨fun a U g mk q => by obtain ⟨q0, qP, qK⟩ := q; exact ⟨q0, qP, va_K.moved (u := U) (U := U.calling g mk a) (Vm.Alike.refl U.vm) qK⟩, fun U hU hW => ⟨rfl, by rw [hU]; exact hPc_310, va_K.moved hW.alike hK⟩⟩ rfl rfl hl.1 rfl (lv_room (Nat.le_of_ble_eq_true rfl)) dX8_byTurns_86 ⟨Nat.le_of_ble_eq_true rfl, Nat.le_of_ble_eq_true rfl⟩) (fun r_310 h_310 => ?_)
            rcases h_310 with ⟨h_310, f_310_0_0⟩ | ⟨h_310, f_310_1_0⟩
            · subst h_310
              refine lv_istore (lv' := [(6, .int 0), (5, .int (nI ii1)), (4, .int (nI ii)), (3, .int (nI (8 + z_11))), (0, .ref mo), (1, .int (nI j_2)), (2, .int (nI j_5))]) hx hb dX8_byTurns_89 hl (by decide) rfl (fun ls hl => ?_)
              refine lv_aload_n hx hb dX8_byTurns_91 rfl (lv_at hl 4 rfl) ?_
              refine va_get (D := (dC, dI)) (ci := 8) (v := .ref m_st) (C := RX8) (T := TX8) (N := 24) hx hb hts i_X8_byTurns_X8 hown hK hP 1 rfl rfl 5 (by decide) (hts (.fieldLink RX8 19 "MillTalkModel" "st" "[I") (by decide +kernel)) (fun _ h9 => h9) rfl dX8_byTurns_92 ?_
              refine lv_bipush (v := 6) hx hb dX8_byTurns_95 (by decide) ?_
              refine lv_iload hx hb dX8_byTurns_97 (lv_at hl 0 rfl) ?_
              refine lv_if_eq (tgt := 121) hx hb dX8_byTurns_99 (by decide) (fun _ => ?_) (fun c_ => absurd (by decide) c_)
              refine lv_aload_n hx hb dX8_byTurns_121 rfl (lv_at hl 4 rfl) ?_
              refine va_get (D := (dC, dI)) (ci := 8) (v := .ref m_st) (C := RX8) (T := TX8) (N := 24) hx hb hts i_X8_byTurns_X8 hown hK hP 1 rfl rfl 5 (by decide) (hts (.fieldLink RX8 19 "MillTalkModel" "st" "[I") (by decide +kernel)) (fun _ h9 => h9) rfl dX8_byTurns_122 ?_
              refine lv_bipush (v := 6) hx hb dX8_byTurns_125 (by decide) ?_
              refine va_iald hx hb hK hP 2 0 rfl rfl (by unfold vp_in; decide) dX8_byTurns_127 ?_
              refine lv_topi (fun v_312 e_312 => ?_)
              have e_312 : v_312 = w_271 6 := e_312
              refine va_iast hx hb hK hP hD hS 2 0 rfl rfl (by unfold vp_in; decide) dX8_byTurns_128 (fun H locs hP hD hS => ?_)
              generalize hg_313 : upd w_271 (6 : Int32).toNatClampNeg v_312 = g_313 at hP hD
              have hu_313 : g_313 = upd w_271 6 v_312 := hg_313.symm
              have hM_313 : okM g_313 w9 k9 h9 := okM_off (i := 6) hMl hg_313 (by omega) (by omega) (by omega) (by omega) (by omega)
              have hP : va_P (dC, dI) vwCl [(m_wo, .inl (cI, 16, .inl w_122)), (mo, .inr (8, [.ref m_la, .ref m_sz, .ref m_it, .int ms, .int mt, .ref m_st, .ref m_mv, .ref m_tp, .int (nI mz), .int ml, .int (nI mp), .int mk, .int mv, .int mb, .int mw, .ref m_rd, .ref m_ac, .int (nI ma), .ref m_as, .ref m_wo, .ref m_ik, .ref m_ke, .ref m_tr, .int (nI mx)])), (m_st, .inl (cI, 38, .inl g_313)), (m_as, .inl (cI, 38, .inl fan_8))] H := hP
              have hD := dto hP hD
              refine lv_aload_n hx hb dX8_byTurns_129 rfl (lv_at hl 4 rfl) ?_
              refine va_get (D := (dC, dI)) (ci := 8) (v := .ref m_st) (C := RX8) (T := TX8) (N := 24) hx hb hts i_X8_byTurns_X8 hown hK hP 1 rfl rfl 5 (by decide) (hts (.fieldLink RX8 19 "MillTalkModel" "st" "[I") (by decide +kernel)) (fun _ h9 => h9) rfl dX8_byTurns_130 ?_
              refine lv_iload_n hx hb dX8_byTurns_133 rfl (lv_at hl 3 rfl) ?_
              refine lv_iload hx hb dX8_byTurns_134 (lv_at hl 0 rfl) ?_
              refine lv_if_eq (tgt := 158) hx hb dX8_byTurns_136 (by decide) (fun _ => ?_) (fun c_ => absurd (by decide) c_)
              refine lv_aload_n hx hb dX8_byTurns_158 rfl (lv_at hl 4 rfl) ?_
              refine va_get (D := (dC, dI)) (ci := 8) (v := .ref m_st) (C := RX8) (T := TX8) (N := 24) hx hb hts i_X8_byTurns_X8 hown hK hP 1 rfl rfl 5 (by decide) (hts (.fieldLink RX8 19 "MillTalkModel" "st" "[I") (by decide +kernel)) (fun _ h9 => h9) rfl dX8_byTurns_159 ?_
              refine lv_iload_n hx hb dX8_byTurns_162 rfl (lv_at hl 3 rfl) ?_
              refine va_iald hx hb hK hP 2 0 rfl rfl (vp_in_nI (by omega) (by omega)) dX8_byTurns_163 ?_
              refine lv_topi (fun v_315 e_315 => ?_)
              have e_315 : v_315 = g_313 (8 + z_11) := e_315.trans (congrArg g_313 (nI_clamp (by omega)))
              refine va_iast hx hb hK hP hD hS 2 0 rfl rfl (vp_in_nI (by omega) (by omega)) dX8_byTurns_164 (fun H locs hP hD hS => ?_)
              generalize hg_316 : upd g_313 ((nI (8 + z_11)) : Int32).toNatClampNeg v_315 = g_316 at hP hD
              have hu_316 : g_316 = upd g_313 (8 + z_11) v_315 := (by rw [← hg_316, nI_clamp (by omega)])
              have hM_316 : okM g_316 w9 k9 h9 := okM_off (i := (8 + z_11)) hM_313 hg_316 (by omega) (by omega) (by omega) (by omega) (by omega)
              have hP : va_P (dC, dI) vwCl [(m_wo, .inl (cI, 16, .inl w_122)), (mo, .inr (8, [.ref m_la, .ref m_sz, .ref m_it, .int ms, .int mt, .ref m_st, .ref m_mv, .ref m_tp, .int (nI mz), .int ml, .int (nI mp), .int mk, .int mv, .int mb, .int mw, .ref m_rd, .ref m_ac, .int (nI ma), .ref m_as, .ref m_wo, .ref m_ik, .ref m_ke, .ref m_tr, .int (nI mx)])), (m_st, .inl (cI, 38, .inl g_316)), (m_as, .inl (cI, 38, .inl fan_8))] H := hP
              have hD := dto hP hD
              refine lv_iinc (v := (nI (ii1 + 1))) (lv' := [(5, .int (nI (ii1 + 1))), (6, .int 0), (4, .int (nI ii)), (3, .int (nI (8 + z_11))), (0, .ref mo), (1, .int (nI j_2)), (2, .int (nI j_5))]) hx hb dX8_byTurns_165 hl (k := 1) rfl (nI_add ii1 1) (by decide) rfl (fun ls hl => ?_)
              refine lv_goto (tgt := 72) hx hb dX8_byTurns_168 (by decide) ?_
              exact ih (g_316) _ _ _ ⟨lv_sub hl [0, 2, 3, 4, 5, 6] rfl, hP.sub (ws' := [(m_wo, .inl (cI, 16, .inl w_122)), (mo, .inr (8, [.ref m_la, .ref m_sz, .ref m_it, .int ms, .int mt, .ref m_st, .ref m_mv, .ref m_tp, .int (nI mz), .int ml, .int (nI mp), .int mk, .int mv, .int mb, .int mw, .ref m_rd, .ref m_ac, .int (nI ma), .ref m_as, .ref m_wo, .ref m_ik, .ref m_ke, .ref m_tr, .int (nI mx)])), (m_st, .inl (cI, 38, .inl g_316)), (m_as, .inl (cI, 38, .inl fan_8))]) [0, 1, 2, 3] rfl, hD.sub (ws' := [(m_wo, .inl (cI, 16, .inl w_122)), (mo, .inr (8, [.ref m_la, .ref m_sz, .ref m_it, .int ms, .int mt, .ref m_st, .ref m_mv, .ref m_tp, .int (nI mz), .int ml, .int (nI mp), .int mk, .int mv, .int mb, .int mw, .ref m_rd, .ref m_ac, .int (nI ma), .ref m_as, .ref m_wo, .ref m_ik, .ref m_ke, .ref m_tr, .int (nI mx)])), (m_st, .inl (cI, 38, .inl g_316)), (m_as, .inl (cI, 38, .inl fan_8))]) [0, 1, 2, 3] (by decide +kernel) rfl, hS, hM_316, (lf_X8_byTurns_3 hM hT h999 hT0 c_1 hkn1 hw1 h01 f_2_1_0 q_2 hj_2 f_5_1_0 q_5 hj_5 hF_8_0 hsh hs4 hz_11 hze_11 hii haf_0 haf_1 hii1 haii1_0 hMl e_308 e_309 f_310_0_0 e_312 hu_313 e_315 hu_316)⟩
            · subst h_310
              refine lv_istore (lv' := [(6, .int 1), (5, .int (nI ii1)), (4, .int (nI ii)), (3, .int (nI (8 + z_11))), (0, .ref mo), (1, .int (nI j_2)), (2, .int (nI j_5))]) hx hb dX8_byTurns_89 hl (by decide) rfl (fun ls hl => ?_)
              refine lv_aload_n hx hb dX8_byTurns_91 rfl (lv_at hl 4 rfl) ?_
              refine va_get (D := (dC, dI)) (ci := 8) (v := .ref m_st) (C := RX8) (T := TX8) (N := 24) hx hb hts i_X8_byTurns_X8 hown hK hP 1 rfl rfl 5 (by decide) (hts (.fieldLink RX8 19 "MillTalkModel" "st" "[I") (by decide +kernel)) (fun _ h9 => h9) rfl dX8_byTurns_92 ?_
              refine lv_bipush (v := 6) hx hb dX8_byTurns_95 (by decide) ?_
              refine lv_iload hx hb dX8_byTurns_97 (lv_at hl 0 rfl) ?_
              refine lv_if_eq (tgt := 121) hx hb dX8_byTurns_99 (by decide) (fun c_ => absurd c_ (by decide)) (fun _ => ?_)
              refine lv_iload hx hb dX8_byTurns_102 (lv_at hl 1 rfl) ?_
              refine lv_iconst (v := 2) hx hb dX8_byTurns_104 (by decide) ?_
              refine lv_irem hx hb dX8_byTurns_105 (by decide) ?_
              refine lv_topi (fun v_318 e_318 => ?_)
              obtain ⟨z_318, hz_318, hze_318, rfl⟩ : ∃ z : Nat, z < 2 ∧ z = ii1 % 2 ∧ v_318 = nI z := ⟨ii1 % 2, Nat.mod_lt _ (by omega), rfl, e_318.trans (pk_rem (a := ii1) (d := 2) (by omega) (by omega) (by omega))⟩
              refine lv_if_ne (tgt := 121) hx hb dX8_byTurns_106 (by decide) (fun c_319 => ?_) (fun c_319 => ?_)
              · have c_319 : ¬ (z_318 = 0) := fun q_ => c_319 ((nI_eq (a := z_318) (b := 0) (by omega) (by omega)).mpr q_)
                refine lv_aload_n hx hb dX8_byTurns_121 rfl (lv_at hl 4 rfl) ?_
                refine va_get (D := (dC, dI)) (ci := 8) (v := .ref m_st) (C := RX8) (T := TX8) (N := 24) hx hb hts i_X8_byTurns_X8 hown hK hP 1 rfl rfl 5 (by decide) (hts (.fieldLink RX8 19 "MillTalkModel" "st" "[I") (by decide +kernel)) (fun _ h9 => h9) rfl dX8_byTurns_122 ?_
                refine lv_bipush (v := 6) hx hb dX8_byTurns_125 (by decide) ?_
                refine va_iald hx hb hK hP 2 0 rfl rfl (by unfold vp_in; decide) dX8_byTurns_127 ?_
                refine lv_topi (fun v_320 e_320 => ?_)
                have e_320 : v_320 = w_271 6 := e_320
                refine va_iast hx hb hK hP hD hS 2 0 rfl rfl (by unfold vp_in; decide) dX8_byTurns_128 (fun H locs hP hD hS => ?_)
                generalize hg_321 : upd w_271 (6 : Int32).toNatClampNeg v_320 = g_321 at hP hD
                have hu_321 : g_321 = upd w_271 6 v_320 := hg_321.symm
                have hM_321 : okM g_321 w9 k9 h9 := okM_off (i := 6) hMl hg_321 (by omega) (by omega) (by omega) (by omega) (by omega)
                have hP : va_P (dC, dI) vwCl [(m_wo, .inl (cI, 16, .inl w_122)), (mo, .inr (8, [.ref m_la, .ref m_sz, .ref m_it, .int ms, .int mt, .ref m_st, .ref m_mv, .ref m_tp, .int (nI mz), .int ml, .int (nI mp), .int mk, .int mv, .int mb, .int mw, .ref m_rd, .ref m_ac, .int (nI ma), .ref m_as, .ref m_wo, .ref m_ik, .ref m_ke, .ref m_tr, .int (nI mx)])), (m_st, .inl (cI, 38, .inl g_321)), (m_as, .inl (cI, 38, .inl fan_8))] H := hP
                have hD := dto hP hD
                refine lv_aload_n hx hb dX8_byTurns_129 rfl (lv_at hl 4 rfl) ?_
                refine va_get (D := (dC, dI)) (ci := 8) (v := .ref m_st) (C := RX8) (T := TX8) (N := 24) hx hb hts i_X8_byTurns_X8 hown hK hP 1 rfl rfl 5 (by decide) (hts (.fieldLink RX8 19 "MillTalkModel" "st" "[I") (by decide +kernel)) (fun _ h9 => h9) rfl dX8_byTurns_130 ?_
                refine lv_iload_n hx hb dX8_byTurns_133 rfl (lv_at hl 3 rfl) ?_
                refine lv_iload hx hb dX8_byTurns_134 (lv_at hl 0 rfl) ?_
                refine lv_if_eq (tgt := 158) hx hb dX8_byTurns_136 (by decide) (fun c_ => absurd c_ (by decide)) (fun _ => ?_)
                refine lv_iload hx hb dX8_byTurns_139 (lv_at hl 1 rfl) ?_
                refine lv_iconst (v := 2) hx hb dX8_byTurns_141 (by decide) ?_
                refine lv_irem hx hb dX8_byTurns_142 (by decide) ?_
                refine lv_topi (fun v_323 e_323 => ?_)
                obtain ⟨z_323, hz_323, hze_323, rfl⟩ : ∃ z : Nat, z < 2 ∧ z = ii1 % 2 ∧ v_323 = nI z := ⟨ii1 % 2, Nat.mod_lt _ (by omega), rfl, e_323.trans (pk_rem (a := ii1) (d := 2) (by omega) (by omega) (by omega))⟩
                refine lv_iconst (v := 1) hx hb dX8_byTurns_143 (by decide) ?_
                refine lv_icmp_ne (tgt := 158) hx hb dX8_byTurns_144 (by decide) (fun c_324 => ?_) (fun c_324 => ?_)
                · have c_324 : ¬ (z_323 = 1) := fun q_ => c_324 ((nI_eq (a := z_323) (b := 1) (by omega) (by omega)).mpr q_)
                  refine lv_aload_n hx hb dX8_byTurns_158 rfl (lv_at hl 4 rfl) ?_
                  refine va_get (D := (dC, dI)) (ci := 8) (v := .ref m_st) (C := RX8) (T := TX8) (N := 24) hx hb hts i_X8_byTurns_X8 hown hK hP 1 rfl rfl 5 (by decide) (hts (.fieldLink RX8 19 "MillTalkModel" "st" "[I") (by decide +kernel)) (fun _ h9 => h9) rfl dX8_byTurns_159 ?_
                  refine lv_iload_n hx hb dX8_byTurns_162 rfl (lv_at hl 3 rfl) ?_
                  refine va_iald hx hb hK hP 2 0 rfl rfl (vp_in_nI (by omega) (by omega)) dX8_byTurns_163 ?_
                  refine lv_topi (fun v_325 e_325 => ?_)
                  have e_325 : v_325 = g_321 (8 + z_11) := e_325.trans (congrArg g_321 (nI_clamp (by omega)))
                  refine va_iast hx hb hK hP hD hS 2 0 rfl rfl (vp_in_nI (by omega) (by omega)) dX8_byTurns_164 (fun H locs hP hD hS => ?_)
                  generalize hg_326 : upd g_321 ((nI (8 + z_11)) : Int32).toNatClampNeg v_325 = g_326 at hP hD
                  have hu_326 : g_326 = upd g_321 (8 + z_11) v_325 := (by rw [← hg_326, nI_clamp (by omega)])
                  have hM_326 : okM g_326 w9 k9 h9 := okM_off (i := (8 + z_11)) hM_321 hg_326 (by omega) (by omega) (by omega) (by omega) (by omega)
                  have hP : va_P (dC, dI) vwCl [(m_wo, .inl (cI, 16, .inl w_122)), (mo, .inr (8, [.ref m_la, .ref m_sz, .ref m_it, .int ms, .int mt, .ref m_st, .ref m_mv, .ref m_tp, .int (nI mz), .int ml, .int (nI mp), .int mk, .int mv, .int mb, .int mw, .ref m_rd, .ref m_ac, .int (nI ma), .ref m_as, .ref m_wo, .ref m_ik, .ref m_ke, .ref m_tr, .int (nI mx)])), (m_st, .inl (cI, 38, .inl g_326)), (m_as, .inl (cI, 38, .inl fan_8))] H := hP
                  have hD := dto hP hD
                  refine lv_iinc (v := (nI (ii1 + 1))) (lv' := [(5, .int (nI (ii1 + 1))), (6, .int 1), (4, .int (nI ii)), (3, .int (nI (8 + z_11))), (0, .ref mo), (1, .int (nI j_2)), (2, .int (nI j_5))]) hx hb dX8_byTurns_165 hl (k := 1) rfl (nI_add ii1 1) (by decide) rfl (fun ls hl => ?_)
                  refine lv_goto (tgt := 72) hx hb dX8_byTurns_168 (by decide) ?_
                  exact ih (g_326) _ _ _ ⟨lv_sub hl [0, 2, 3, 4, 5, 6] rfl, hP.sub (ws' := [(m_wo, .inl (cI, 16, .inl w_122)), (mo, .inr (8, [.ref m_la, .ref m_sz, .ref m_it, .int ms, .int mt, .ref m_st, .ref m_mv, .ref m_tp, .int (nI mz), .int ml, .int (nI mp), .int mk, .int mv, .int mb, .int mw, .ref m_rd, .ref m_ac, .int (nI ma), .ref m_as, .ref m_wo, .ref m_ik, .ref m_ke, .ref m_tr, .int (nI mx)])), (m_st, .inl (cI, 38, .inl g_326)), (m_as, .inl (cI, 38, .inl fan_8))]) [0, 1, 2, 3] rfl, hD.sub (ws' := [(m_wo, .inl (cI, 16, .inl w_122)), (mo, .inr (8, [.ref m_la, .ref m_sz, .ref m_it, .int ms, .int mt, .ref m_st, .ref m_mv, .ref m_tp, .int (nI mz), .int ml, .int (nI mp), .int mk, .int mv, .int mb, .int mw, .ref m_rd, .ref m_ac, .int (nI ma), .ref m_as, .ref m_wo, .ref m_ik, .ref m_ke, .ref m_tr, .int (nI mx)])), (m_st, .inl (cI, 38, .inl g_326)), (m_as, .inl (cI, 38, .inl fan_8))]) [0, 1, 2, 3] (by decide +kernel) rfl, hS, hM_326, (lf_X8_byTurns_4 hM hT h999 hT0 c_1 hkn1 hw1 h01 f_2_1_0 q_2 hj_2 f_5_1_0 q_5 hj_5 hF_8_0 hsh hs4 hz_11 hze_11 hii haf_0 haf_1 hii1 haii1_0 hMl e_308 e_309 f_310_1_0 hz_318 hze_318 c_319 e_320 hu_321 hz_323 hze_323 c_324 e_325 hu_326)⟩
                · have c_324 : z_323 = 1 := (nI_eq (a := z_323) (b := 1) (by omega) (by omega)).mp c_324
                  refine lv_iconst (v := 4) hx hb dX8_byTurns_147 (by decide) ?_
                  refine lv_aload_n hx hb dX8_byTurns_148 rfl (lv_at hl 4 rfl) ?_
                  refine va_get (D := (dC, dI)) (ci := 8) (v := .ref m_st) (C := RX8) (T := TX8) (N := 24) hx hb hts i_X8_byTurns_X8 hown hK hP 1 rfl rfl 5 (by decide) (hts (.fieldLink RX8 19 "MillTalkModel" "st" "[I") (by decide +kernel)) (fun _ h9 => h9) rfl dX8_byTurns_149 ?_
                  refine lv_iload_n hx hb dX8_byTurns_152 rfl (lv_at hl 3 rfl) ?_
                  refine va_iald hx hb hK hP 2 0 rfl rfl (vp_in_nI (by omega) (by omega)) dX8_byTurns_153 ?_
                  refine lv_topi (fun v_327 e_327 => ?_)
                  have e_327 : v_327 = g_321 (8 + z_11) := e_327.trans (congrArg g_321 (nI_clamp (by omega)))
                  refine lv_isub hx hb dX8_byTurns_154 ?_
                  refine lv_topi (fun v_328 e_328 => ?_)
                  refine lv_goto (tgt := 164) hx hb dX8_byTurns_155 (by decide) ?_
                  refine va_iast hx hb hK hP hD hS 2 0 rfl rfl (vp_in_nI (by omega) (by omega)) dX8_byTurns_164 (fun H locs hP hD hS => ?_)
                  generalize hg_329 : upd g_321 ((nI (8 + z_11)) : Int32).toNatClampNeg v_328 = g_329 at hP hD
                  have hu_329 : g_329 = upd g_321 (8 + z_11) v_328 := (by rw [← hg_329, nI_clamp (by omega)])
                  have hM_329 : okM g_329 w9 k9 h9 := okM_off (i := (8 + z_11)) hM_321 hg_329 (by omega) (by omega) (by omega) (by omega) (by omega)
                  have hP : va_P (dC, dI) vwCl [(m_wo, .inl (cI, 16, .inl w_122)), (mo, .inr (8, [.ref m_la, .ref m_sz, .ref m_it, .int ms, .int mt, .ref m_st, .ref m_mv, .ref m_tp, .int (nI mz), .int ml, .int (nI mp), .int mk, .int mv, .int mb, .int mw, .ref m_rd, .ref m_ac, .int (nI ma), .ref m_as, .ref m_wo, .ref m_ik, .ref m_ke, .ref m_tr, .int (nI mx)])), (m_st, .inl (cI, 38, .inl g_329)), (m_as, .inl (cI, 38, .inl fan_8))] H := hP
                  have hD := dto hP hD
                  refine lv_iinc (v := (nI (ii1 + 1))) (lv' := [(5, .int (nI (ii1 + 1))), (6, .int 1), (4, .int (nI ii)), (3, .int (nI (8 + z_11))), (0, .ref mo), (1, .int (nI j_2)), (2, .int (nI j_5))]) hx hb dX8_byTurns_165 hl (k := 1) rfl (nI_add ii1 1) (by decide) rfl (fun ls hl => ?_)
                  refine lv_goto (tgt := 72) hx hb dX8_byTurns_168 (by decide) ?_
                  exact ih (g_329) _ _ _ ⟨lv_sub hl [0, 2, 3, 4, 5, 6] rfl, hP.sub (ws' := [(m_wo, .inl (cI, 16, .inl w_122)), (mo, .inr (8, [.ref m_la, .ref m_sz, .ref m_it, .int ms, .int mt, .ref m_st, .ref m_mv, .ref m_tp, .int (nI mz), .int ml, .int (nI mp), .int mk, .int mv, .int mb, .int mw, .ref m_rd, .ref m_ac, .int (nI ma), .ref m_as, .ref m_wo, .ref m_ik, .ref m_ke, .ref m_tr, .int (nI mx)])), (m_st, .inl (cI, 38, .inl g_329)), (m_as, .inl (cI, 38, .inl fan_8))]) [0, 1, 2, 3] rfl, hD.sub (ws' := [(m_wo, .inl (cI, 16, .inl w_122)), (mo, .inr (8, [.ref m_la, .ref m_sz, .ref m_it, .int ms, .int mt, .ref m_st, .ref m_mv, .ref m_tp, .int (nI mz), .int ml, .int (nI mp), .int mk, .int mv, .int mb, .int mw, .ref m_rd, .ref m_ac, .int (nI ma), .ref m_as, .ref m_wo, .ref m_ik, .ref m_ke, .ref m_tr, .int (nI mx)])), (m_st, .inl (cI, 38, .inl g_329)), (m_as, .inl (cI, 38, .inl fan_8))]) [0, 1, 2, 3] (by decide +kernel) rfl, hS, hM_329, (lf_X8_byTurns_5 hM hT h999 hT0 c_1 hkn1 hw1 h01 f_2_1_0 q_2 hj_2 f_5_1_0 q_5 hj_5 hF_8_0 hsh hs4 hz_11 hze_11 hii haf_0 haf_1 hii1 haii1_0 hMl e_308 e_309 f_310_1_0 hz_318 hze_318 c_319 e_320 hu_321 hz_323 hze_323 c_324 e_327 e_328 hu_329)⟩
              · have c_319 : z_318 = 0 := (nI_eq (a := z_318) (b := 0) (by omega) (by omega)).mp c_319
                refine lv_iconst (v := 1) hx hb dX8_byTurns_109 (by decide) ?_
                refine lv_aload_n hx hb dX8_byTurns_110 rfl (lv_at hl 4 rfl) ?_
                refine va_get (D := (dC, dI)) (ci := 8) (v := .ref m_st) (C := RX8) (T := TX8) (N := 24) hx hb hts i_X8_byTurns_X8 hown hK hP 1 rfl rfl 5 (by decide) (hts (.fieldLink RX8 19 "MillTalkModel" "st" "[I") (by decide +kernel)) (fun _ h9 => h9) rfl dX8_byTurns_111 ?_
                refine lv_bipush (v := 6) hx hb dX8_byTurns_114 (by decide) ?_
                refine va_iald hx hb hK hP 2 0 rfl rfl (by unfold vp_in; decide) dX8_byTurns_116 ?_
                refine lv_topi (fun v_330 e_330 => ?_)
                have e_330 : v_330 = w_271 6 := e_330
                refine lv_isub hx hb dX8_byTurns_117 ?_
                refine lv_topi (fun v_331 e_331 => ?_)
                refine lv_goto (tgt := 128) hx hb dX8_byTurns_118 (by decide) ?_
                refine va_iast hx hb hK hP hD hS 2 0 rfl rfl (by unfold vp_in; decide) dX8_byTurns_128 (fun H locs hP hD hS => ?_)
                generalize hg_332 : upd w_271 (6 : Int32).toNatClampNeg v_331 = g_332 at hP hD
                have hu_332 : g_332 = upd w_271 6 v_331 := hg_332.symm
                have hM_332 : okM g_332 w9 k9 h9 := okM_off (i := 6) hMl hg_332 (by omega) (by omega) (by omega) (by omega) (by omega)
                have hP : va_P (dC, dI) vwCl [(m_wo, .inl (cI, 16, .inl w_122)), (mo, .inr (8, [.ref m_la, .ref m_sz, .ref m_it, .int ms, .int mt, .ref m_st, .ref m_mv, .ref m_tp, .int (nI mz), .int ml, .int (nI mp), .int mk, .int mv, .int mb, .int mw, .ref m_rd, .ref m_ac, .int (nI ma), .ref m_as, .ref m_wo, .ref m_ik, .ref m_ke, .ref m_tr, .int (nI mx)])), (m_st, .inl (cI, 38, .inl g_332)), (m_as, .inl (cI, 38, .inl fan_8))] H := hP
                have hD := dto hP hD
                refine lv_aload_n hx hb dX8_byTurns_129 rfl (lv_at hl 4 rfl) ?_
                refine va_get (D := (dC, dI)) (ci := 8) (v := .ref m_st) (C := RX8) (T := TX8) (N := 24) hx hb hts i_X8_byTurns_X8 hown hK hP 1 rfl rfl 5 (by decide) (hts (.fieldLink RX8 19 "MillTalkModel" "st" "[I") (by decide +kernel)) (fun _ h9 => h9) rfl dX8_byTurns_130 ?_
                refine lv_iload_n hx hb dX8_byTurns_133 rfl (lv_at hl 3 rfl) ?_
                refine lv_iload hx hb dX8_byTurns_134 (lv_at hl 0 rfl) ?_
                refine lv_if_eq (tgt := 158) hx hb dX8_byTurns_136 (by decide) (fun c_ => absurd c_ (by decide)) (fun _ => ?_)
                refine lv_iload hx hb dX8_byTurns_139 (lv_at hl 1 rfl) ?_
                refine lv_iconst (v := 2) hx hb dX8_byTurns_141 (by decide) ?_
                refine lv_irem hx hb dX8_byTurns_142 (by decide) ?_
                refine lv_topi (fun v_334 e_334 => ?_)
                obtain ⟨z_334, hz_334, hze_334, rfl⟩ : ∃ z : Nat, z < 2 ∧ z = ii1 % 2 ∧ v_334 = nI z := ⟨ii1 % 2, Nat.mod_lt _ (by omega), rfl, e_334.trans (pk_rem (a := ii1) (d := 2) (by omega) (by omega) (by omega))⟩
                refine lv_iconst (v := 1) hx hb dX8_byTurns_143 (by decide) ?_
                refine lv_icmp_ne (tgt := 158) hx hb dX8_byTurns_144 (by decide) (fun c_335 => ?_) (fun c_335 => ?_)
                · have c_335 : ¬ (z_334 = 1) := fun q_ => c_335 ((nI_eq (a := z_334) (b := 1) (by omega) (by omega)).mpr q_)
                  refine lv_aload_n hx hb dX8_byTurns_158 rfl (lv_at hl 4 rfl) ?_
                  refine va_get (D := (dC, dI)) (ci := 8) (v := .ref m_st) (C := RX8) (T := TX8) (N := 24) hx hb hts i_X8_byTurns_X8 hown hK hP 1 rfl rfl 5 (by decide) (hts (.fieldLink RX8 19 "MillTalkModel" "st" "[I") (by decide +kernel)) (fun _ h9 => h9) rfl dX8_byTurns_159 ?_
                  refine lv_iload_n hx hb dX8_byTurns_162 rfl (lv_at hl 3 rfl) ?_
                  refine va_iald hx hb hK hP 2 0 rfl rfl (vp_in_nI (by omega) (by omega)) dX8_byTurns_163 ?_
                  refine lv_topi (fun v_336 e_336 => ?_)
                  have e_336 : v_336 = g_332 (8 + z_11) := e_336.trans (congrArg g_332 (nI_clamp (by omega)))
                  refine va_iast hx hb hK hP hD hS 2 0 rfl rfl (vp_in_nI (by omega) (by omega)) dX8_byTurns_164 (fun H locs hP hD hS => ?_)
                  generalize hg_337 : upd g_332 ((nI (8 + z_11)) : Int32).toNatClampNeg v_336 = g_337 at hP hD
                  have hu_337 : g_337 = upd g_332 (8 + z_11) v_336 := (by rw [← hg_337, nI_clamp (by omega)])
                  have hM_337 : okM g_337 w9 k9 h9 := okM_off (i := (8 + z_11)) hM_332 hg_337 (by omega) (by omega) (by omega) (by omega) (by omega)
                  have hP : va_P (dC, dI) vwCl [(m_wo, .inl (cI, 16, .inl w_122)), (mo, .inr (8, [.ref m_la, .ref m_sz, .ref m_it, .int ms, .int mt, .ref m_st, .ref m_mv, .ref m_tp, .int (nI mz), .int ml, .int (nI mp), .int mk, .int mv, .int mb, .int mw, .ref m_rd, .ref m_ac, .int (nI ma), .ref m_as, .ref m_wo, .ref m_ik, .ref m_ke, .ref m_tr, .int (nI mx)])), (m_st, .inl (cI, 38, .inl g_337)), (m_as, .inl (cI, 38, .inl fan_8))] H := hP
                  have hD := dto hP hD
                  refine lv_iinc (v := (nI (ii1 + 1))) (lv' := [(5, .int (nI (ii1 + 1))), (6, .int 1), (4, .int (nI ii)), (3, .int (nI (8 + z_11))), (0, .ref mo), (1, .int (nI j_2)), (2, .int (nI j_5))]) hx hb dX8_byTurns_165 hl (k := 1) rfl (nI_add ii1 1) (by decide) rfl (fun ls hl => ?_)
                  refine lv_goto (tgt := 72) hx hb dX8_byTurns_168 (by decide) ?_
                  exact ih (g_337) _ _ _ ⟨lv_sub hl [0, 2, 3, 4, 5, 6] rfl, hP.sub (ws' := [(m_wo, .inl (cI, 16, .inl w_122)), (mo, .inr (8, [.ref m_la, .ref m_sz, .ref m_it, .int ms, .int mt, .ref m_st, .ref m_mv, .ref m_tp, .int (nI mz), .int ml, .int (nI mp), .int mk, .int mv, .int mb, .int mw, .ref m_rd, .ref m_ac, .int (nI ma), .ref m_as, .ref m_wo, .ref m_ik, .ref m_ke, .ref m_tr, .int (nI mx)])), (m_st, .inl (cI, 38, .inl g_337)), (m_as, .inl (cI, 38, .inl fan_8))]) [0, 1, 2, 3] rfl, hD.sub (ws' := [(m_wo, .inl (cI, 16, .inl w_122)), (mo, .inr (8, [.ref m_la, .ref m_sz, .ref m_it, .int ms, .int mt, .ref m_st, .ref m_mv, .ref m_tp, .int (nI mz), .int ml, .int (nI mp), .int mk, .int mv, .int mb, .int mw, .ref m_rd, .ref m_ac, .int (nI ma), .ref m_as, .ref m_wo, .ref m_ik, .ref m_ke, .ref m_tr, .int (nI mx)])), (m_st, .inl (cI, 38, .inl g_337)), (m_as, .inl (cI, 38, .inl fan_8))]) [0, 1, 2, 3] (by decide +kernel) rfl, hS, hM_337, (lf_X8_byTurns_6 hM hT h999 hT0 c_1 hkn1 hw1 h01 f_2_1_0 q_2 hj_2 f_5_1_0 q_5 hj_5 hF_8_0 hsh hs4 hz_11 hze_11 hii haf_0 haf_1 hii1 haii1_0 hMl e_308 e_309 f_310_1_0 hz_318 hze_318 c_319 e_330 e_331 hu_332 hz_334 hze_334 c_335 e_336 hu_337)⟩
                · have c_335 : z_334 = 1 := (nI_eq (a := z_334) (b := 1) (by omega) (by omega)).mp c_335
                  refine lv_iconst (v := 4) hx hb dX8_byTurns_147 (by decide) ?_
                  refine lv_aload_n hx hb dX8_byTurns_148 rfl (lv_at hl 4 rfl) ?_
                  refine va_get (D := (dC, dI)) (ci := 8) (v := .ref m_st) (C := RX8) (T := TX8) (N := 24) hx hb hts i_X8_byTurns_X8 hown hK hP 1 rfl rfl 5 (by decide) (hts (.fieldLink RX8 19 "MillTalkModel" "st" "[I") (by decide +kernel)) (fun _ h9 => h9) rfl dX8_byTurns_149 ?_
                  refine lv_iload_n hx hb dX8_byTurns_152 rfl (lv_at hl 3 rfl) ?_
                  refine va_iald hx hb hK hP 2 0 rfl rfl (vp_in_nI (by omega) (by omega)) dX8_byTurns_153 ?_
                  refine lv_topi (fun v_338 e_338 => ?_)
                  have e_338 : v_338 = g_332 (8 + z_11) := e_338.trans (congrArg g_332 (nI_clamp (by omega)))
                  refine lv_isub hx hb dX8_byTurns_154 ?_
                  refine lv_topi (fun v_339 e_339 => ?_)
                  refine lv_goto (tgt := 164) hx hb dX8_byTurns_155 (by decide) ?_
                  refine va_iast hx hb hK hP hD hS 2 0 rfl rfl (vp_in_nI (by omega) (by omega)) dX8_byTurns_164 (fun H locs hP hD hS => ?_)
                  generalize hg_340 : upd g_332 ((nI (8 + z_11)) : Int32).toNatClampNeg v_339 = g_340 at hP hD
                  have hu_340 : g_340 = upd g_332 (8 + z_11) v_339 := (by rw [← hg_340, nI_clamp (by omega)])
                  have hM_340 : okM g_340 w9 k9 h9 := okM_off (i := (8 + z_11)) hM_332 hg_340 (by omega) (by omega) (by omega) (by omega) (by omega)
                  have hP : va_P (dC, dI) vwCl [(m_wo, .inl (cI, 16, .inl w_122)), (mo, .inr (8, [.ref m_la, .ref m_sz, .ref m_it, .int ms, .int mt, .ref m_st, .ref m_mv, .ref m_tp, .int (nI mz), .int ml, .int (nI mp), .int mk, .int mv, .int mb, .int mw, .ref m_rd, .ref m_ac, .int (nI ma), .ref m_as, .ref m_wo, .ref m_ik, .ref m_ke, .ref m_tr, .int (nI mx)])), (m_st, .inl (cI, 38, .inl g_340)), (m_as, .inl (cI, 38, .inl fan_8))] H := hP
                  have hD := dto hP hD
                  refine lv_iinc (v := (nI (ii1 + 1))) (lv' := [(5, .int (nI (ii1 + 1))), (6, .int 1), (4, .int (nI ii)), (3, .int (nI (8 + z_11))), (0, .ref mo), (1, .int (nI j_2)), (2, .int (nI j_5))]) hx hb dX8_byTurns_165 hl (k := 1) rfl (nI_add ii1 1) (by decide) rfl (fun ls hl => ?_)
                  refine lv_goto (tgt := 72) hx hb dX8_byTurns_168 (by decide) ?_
                  exact ih (g_340) _ _ _ ⟨lv_sub hl [0, 2, 3, 4, 5, 6] rfl, hP.sub (ws' := [(m_wo, .inl (cI, 16, .inl w_122)), (mo, .inr (8, [.ref m_la, .ref m_sz, .ref m_it, .int ms, .int mt, .ref m_st, .ref m_mv, .ref m_tp, .int (nI mz), .int ml, .int (nI mp), .int mk, .int mv, .int mb, .int mw, .ref m_rd, .ref m_ac, .int (nI ma), .ref m_as, .ref m_wo, .ref m_ik, .ref m_ke, .ref m_tr, .int (nI mx)])), (m_st, .inl (cI, 38, .inl g_340)), (m_as, .inl (cI, 38, .inl fan_8))]) [0, 1, 2, 3] rfl, hD.sub (ws' := [(m_wo, .inl (cI, 16, .inl w_122)), (mo, .inr (8, [.ref m_la, .ref m_sz, .ref m_it, .int ms, .int mt, .ref m_st, .ref m_mv, .ref m_tp, .int (nI mz), .int ml, .int (nI mp), .int mk, .int mv, .int mb, .int mw, .ref m_rd, .ref m_ac, .int (nI ma), .ref m_as, .ref m_wo, .ref m_ik, .ref m_ke, .ref m_tr, .int (nI mx)])), (m_st, .inl (cI, 38, .inl g_340)), (m_as, .inl (cI, 38, .inl fan_8))]) [0, 1, 2, 3] (by decide +kernel) rfl, hS, hM_340, (lf_X8_byTurns_7 hM hT h999 hT0 c_1 hkn1 hw1 h01 f_2_1_0 q_2 hj_2 f_5_1_0 q_5 hj_5 hF_8_0 hsh hs4 hz_11 hze_11 hii haf_0 haf_1 hii1 haii1_0 hMl e_308 e_309 f_310_1_0 hz_318 hze_318 c_319 e_330 e_331 hu_332 hz_334 hze_334 c_335 e_338 e_339 hu_340)⟩
          · rintro w_271 H locs ls ⟨hl, hP, hD, hS, hMl, haii1_0⟩
            refine lv_iload hx hb dX8_byTurns_72 (lv_at hl 0 rfl) ?_
            refine lv_iload_n hx hb dX8_byTurns_74 rfl (lv_at hl 4 rfl) ?_
            refine lv_icmp_ge (tgt := 171) hx hb dX8_byTurns_75 (by decide) (fun _ => ?_) (fun c_ => absurd ((nI_leI (a := j_2) (b := j_2) (by omega) (by omega)).mpr (by omega)) c_)
            refine lv_aload_n hx hb dX8_byTurns_171 rfl (lv_at hl 3 rfl) ?_
            refine va_get (D := (dC, dI)) (ci := 8) (v := .ref m_wo) (C := RX8) (T := TX8) (N := 24) hx hb hts i_X8_byTurns_X8 hown hK hP 1 rfl rfl 19 (by decide) (hts (.fieldLink RX8 37 "MillTalkModel" "worths" "[I") (by decide +kernel)) (fun _ h9 => h9) rfl dX8_byTurns_172 ?_
            refine lv_iload hx hb dX8_byTurns_175 (lv_at hl 1 rfl) ?_
            refine lv_aload_n hx hb dX8_byTurns_177 rfl (lv_at hl 3 rfl) ?_
            refine lv_iload_n hx hb dX8_byTurns_178 rfl (lv_at hl 5 rfl) ?_
            have hc_342 := cutW (wc := [(mo, .inr (8, [.ref m_la, .ref m_sz, .ref m_it, .int ms, .int mt, .ref m_st, .ref m_mv, .ref m_tp, .int (nI mz), .int ml, .int (nI mp), .int mk, .int mv, .int mb, .int mw, .ref m_rd, .ref m_ac, .int (nI ma), .ref m_as, .ref m_wo, .ref m_ik, .ref m_ke, .ref m_tr, .int (nI mx)])), (m_st, .inl (cI, 38, .inl w_271)), (m_as, .inl (cI, 38, .inl fan_8))]) hP hD hS hA [1, 2, 3] (by decide +kernel) rfl
            refine va_calli (va_runV (As := [.int (nI j_5)]) (rest := [.int (nI ii), .ref m_wo]) ⟨hx, hb, hml, hown, hts⟩ (r_X8_mealBehind l dC dI cI cZ cL cJ H.size mo m_la m_sz m_it m_st m_mv m_tp m_rd m_ac m_as m_wo m_ik m_ke m_tr ms mt ml mk mv mb mw mz mp ma mx w_271 w9 k9 h9 fan_8 j_5 (hMl) (by omega) (by omega) (by omega)) (cwV 1 hts gX8_byTurns_X8_mealBehind rfl rfl rfl (by decide +kernel) ⟨Nat.le_of_ble_eq_true rfl, Nat.le_of_ble_eq_true rfl⟩) ⟨fun a U g mk q => by obtain ⟨q0, q1, qP, qK, qD⟩ := q; exact ⟨q0, q1, qP, va_K.moved (u := U) (U := U.calling g mk a) (Vm.Alike.refl U.vm) qK, qD⟩, va_recv hK hP (ci := 8) (q0 := 1) rfl rfl, fun U hU hW => ⟨rfl, by rw [hU], by rw [hU]; exact hc_342.1, va_K.moved hW.alike hK, hc_342.2.1.weaken (fun _ _ _ _ => trivial)⟩⟩ rfl rfl hl.1 rfl (lv_room (Nat.le_of_ble_eq_true rfl)) dX8_byTurns_179 ⟨Nat.le_of_ble_eq_true rfl, Nat.le_of_ble_eq_true rfl⟩) hS (fun q _ h => hc_342.2.2 q h) hc_342.2.2 (fun r_342 u_342 t_342 H1 locs ht hvm h_342 hB hz1 hk1 hS => ?_)
            obtain ⟨fsn_342, hP1, hD1, hF_342_0⟩ := hB
            rw [ht] at hP1
            obtain ⟨hP, hD⟩ := va_join (wr := [(m_wo, .inl (cI, 16, .inl w_122))]) (w1 := [(mo, .inr (8, [.ref m_la, .ref m_sz, .ref m_it, .int ms, .int mt, .ref m_st, .ref m_mv, .ref m_tp, .int (nI mz), .int ml, .int (nI mp), .int mk, .int mv, .int mb, .int mw, .ref m_rd, .ref m_ac, .int (nI ma), .ref m_as, .ref m_wo, .ref m_ik, .ref m_ke, .ref m_tr, .int (nI mx)])), (m_st, .inl (cI, 38, .inl fsn_342)), (m_as, .inl (cI, 38, .inl fan_8))]) hP hD [1, 2, 3] [0] rfl rfl (by decide +kernel) (by decide +kernel) hk1 hc_342.2.2 hP1 hD1
            generalize H1 = H at hP hS ⊢
            have hP : va_P (dC, dI) vwCl [(m_wo, .inl (cI, 16, .inl w_122)), (mo, .inr (8, [.ref m_la, .ref m_sz, .ref m_it, .int ms, .int mt, .ref m_st, .ref m_mv, .ref m_tp, .int (nI mz), .int ml, .int (nI mp), .int mk, .int mv, .int mb, .int mw, .ref m_rd, .ref m_ac, .int (nI ma), .ref m_as, .ref m_wo, .ref m_ik, .ref m_ke, .ref m_tr, .int (nI mx)])), (m_st, .inl (cI, 38, .inl fsn_342)), (m_as, .inl (cI, 38, .inl fan_8))] H := hP
            have hD := dto hP hD
            have hT_342 := okM_eq hA_8 hF_342_0
            refine va_iast hx hb hK hP hD hS 0 0 rfl rfl (vp_in_nI (by omega) (by omega)) dX8_byTurns_182 (fun H locs hP hD hS => ?_)
            generalize hg_343 : upd w_122 ((nI ii) : Int32).toNatClampNeg r_342 = g_343 at hP hD
            have hu_343 : g_343 = upd w_122 ii r_342 := (by rw [← hg_343, nI_clamp (by omega)])
            have hP : va_P (dC, dI) vwCl [(m_wo, .inl (cI, 16, .inl g_343)), (mo, .inr (8, [.ref m_la, .ref m_sz, .ref m_it, .int ms, .int mt, .ref m_st, .ref m_mv, .ref m_tp, .int (nI mz), .int ml, .int (nI mp), .int mk, .int mv, .int mb, .int mw, .ref m_rd, .ref m_ac, .int (nI ma), .ref m_as, .ref m_wo, .ref m_ik, .ref m_ke, .ref m_tr, .int (nI mx)])), (m_st, .inl (cI, 38, .inl fsn_342)), (m_as, .inl (cI, 38, .inl fan_8))] H := hP
            have hD := dto hP hD
            refine lv_iinc (v := (nI (ii + 1))) (lv' := [(4, .int (nI (ii + 1))), (5, .int (nI j_2)), (3, .int (nI (8 + z_11))), (0, .ref mo), (1, .int (nI j_2)), (2, .int (nI j_5))]) hx hb dX8_byTurns_183 hl (k := 1) rfl (nI_add ii 1) (by decide) rfl (fun ls hl => ?_)
            refine lv_goto (tgt := 61) hx hb dX8_byTurns_186 (by decide) ?_
            exact ih (g_343, fsn_342) _ _ _ ⟨lv_sub hl [0, 2, 3, 4, 5] rfl, hP.sub (ws' := [(m_wo, .inl (cI, 16, .inl g_343)), (mo, .inr (8, [.ref m_la, .ref m_sz, .ref m_it, .int ms, .int mt, .ref m_st, .ref m_mv, .ref m_tp, .int (nI mz), .int ml, .int (nI mp), .int mk, .int mv, .int mb, .int mw, .ref m_rd, .ref m_ac, .int (nI ma), .ref m_as, .ref m_wo, .ref m_ik, .ref m_ke, .ref m_tr, .int (nI mx)])), (m_st, .inl (cI, 38, .inl fsn_342)), (m_as, .inl (cI, 38, .inl fan_8))]) [0, 1, 2, 3] rfl, hD.sub (ws' := [(m_wo, .inl (cI, 16, .inl g_343)), (mo, .inr (8, [.ref m_la, .ref m_sz, .ref m_it, .int ms, .int mt, .ref m_st, .ref m_mv, .ref m_tp, .int (nI mz), .int ml, .int (nI mp), .int mk, .int mv, .int mb, .int mw, .ref m_rd, .ref m_ac, .int (nI ma), .ref m_as, .ref m_wo, .ref m_ik, .ref m_ke, .ref m_tr, .int (nI mx)])), (m_st, .inl (cI, 38, .inl fsn_342)), (m_as, .inl (cI, 38, .inl fan_8))]) [0, 1, 2, 3] (by decide +kernel) rfl, hS, hT_342, (lf_X8_byTurns_8 hM hT h999 hT0 c_1 hkn1 hw1 h01 f_2_1_0 q_2 hj_2 f_5_1_0 q_5 hj_5 hF_8_0 hsh hs4 hz_11 hze_11 hii haf_0 haf_1 haii1_0 hMl hF_342_0 h_342 hu_343), ((m38_eq hF_342_0).trans ((m38_eq hF_8_0).trans rfl))⟩
        · rintro ⟨w_122, w_123⟩ H locs ls ⟨hl, hP, hD, hS, hMl, haf_0, haf_1⟩
          refine lv_iload hx hb dX8_byTurns_61 (lv_at hl 0 rfl) ?_
          refine lv_iconst (v := 1) hx hb dX8_byTurns_63 (by decide) ?_
          refine lv_iload_n hx hb dX8_byTurns_64 rfl (lv_at hl 3 rfl) ?_
          refine lv_ishl hx hb dX8_byTurns_65 ?_
          refine lv_topi (fun v_344 e_344 => ?_)
          obtain rfl : v_344 = (nI sh) := (e_344).trans hsh
          refine lv_icmp_ge (tgt := 189) hx hb dX8_byTurns_66 (by decide) (fun _ => ?_) (fun c_ => absurd ((nI_leI (a := sh) (b := sh) (by omega) (by omega)).mpr (by omega)) c_)
          refine lv_iload_n hx hb dX8_byTurns_189 rfl (lv_at hl 3 rfl) ?_
          refine lv_iconst (v := 1) hx hb dX8_byTurns_190 (by decide) ?_
          refine lv_isub hx hb dX8_byTurns_191 ?_
          refine lv_topi (fun v_346 e_346 => ?_)
          obtain rfl : v_346 = cdn j_2 0 := e_346.trans (cdn_0 j_2)
          refine lv_istore (lv' := [(4, .int (cdn j_2 0)), (3, .int (nI (8 + z_11))), (0, .ref mo), (1, .int (nI j_2)), (2, .int (nI j_5))]) hx hb dX8_byTurns_192 hl (by decide) rfl (fun ls hl => ?_)
          refine lp_go (σ := (Nat → Int32)) (fun ii1 (st : (Nat → Int32)) H locs ls => match st with | w_412 => lv_has ls 8 [(4, .int (cdn j_2 ii1)), (3, .int (nI (8 + z_11))), (0, .ref mo), (1, .int (nI j_2)), (2, .int (nI j_5))] ∧ va_P (dC, dI) vwCl [(m_wo, .inl (cI, 16, .inl w_412)), (mo, .inr (8, [.ref m_la, .ref m_sz, .ref m_it, .int ms, .int mt, .ref m_st, .ref m_mv, .ref m_tp, .int (nI mz), .int ml, .int (nI mp), .int mk, .int mv, .int mb, .int mw, .ref m_rd, .ref m_ac, .int (nI ma), .ref m_as, .ref m_wo, .ref m_ik, .ref m_ke, .ref m_tr, .int (nI mx)])), (m_st, .inl (cI, 38, .inl w_123)), (m_as, .inl (cI, 38, .inl fan_8))] H ∧ va_D A [(m_wo, .inl (cI, 16, .inl w_412)), (mo, .inr (8, [.ref m_la, .ref m_sz, .ref m_it, .int ms, .int mt, .ref m_st, .ref m_mv, .ref m_tp, .int (nI mz), .int ml, .int (nI mp), .int mk, .int mv, .int mb, .int mw, .ref m_rd, .ref m_ac, .int (nI ma), .ref m_as, .ref m_wo, .ref m_ik, .ref m_ke, .ref m_tr, .int (nI mx)])), (m_st, .inl (cI, 38, .inl w_123)), (m_as, .inl (cI, 38, .inl fan_8))] ∧ va_S A s.heap H locs ∧ okM w_123 w9 k9 h9 ∧ (∀ q : Nat, q < 2 ^ (j_2 - ii1) → w_412 q = wVV j_5 j_2 (m38 fs) (j_2 - ii1) q)) j_2 ?_ ?_ 0 (by omega) (w_122) ⟨lv_sub hl [0, 1, 2, 3, 4] rfl, hP.sub (ws' := [(m_wo, .inl (cI, 16, .inl w_122)), (mo, .inr (8, [.ref m_la, .ref m_sz, .ref m_it, .int ms, .int mt, .ref m_st, .ref m_mv, .ref m_tp, .int (nI mz), .int ml, .int (nI mp), .int mk, .int mv, .int mb, .int mw, .ref m_rd, .ref m_ac, .int (nI ma), .ref m_as, .ref m_wo, .ref m_ik, .ref m_ke, .ref m_tr, .int (nI mx)])), (m_st, .inl (cI, 38, .inl w_123)), (m_as, .inl (cI, 38, .inl fan_8))]) [0, 1, 2, 3] rfl, hD.sub (ws' := [(m_wo, .inl (cI, 16, .inl w_122)), (mo, .inr (8, [.ref m_la, .ref m_sz, .ref m_it, .int ms, .int mt, .ref m_st, .ref m_mv, .ref m_tp, .int (nI mz), .int ml, .int (nI mp), .int mk, .int mv, .int mb, .int mw, .ref m_rd, .ref m_ac, .int (nI ma), .ref m_as, .ref m_wo, .ref m_ik, .ref m_ke, .ref m_tr, .int (nI mx)])), (m_st, .inl (cI, 38, .inl w_123)), (m_as, .inl (cI, 38, .inl fan_8))]) [0, 1, 2, 3] (by decide +kernel) rfl, hS, hMl, (lf_X8_byTurns_9 hM hT h999 hT0 c_1 hkn1 hw1 h01 f_2_1_0 q_2 hj_2 f_5_1_0 q_5 hj_5 hF_8_0 hsh hs4 hz_11 hze_11 haf_0 haf_1 hMl e_346)⟩
          · rintro ii1 w_412 H locs ls hii1 ⟨hl, hP, hD, hS, hMl, haii1_0⟩ ih
            refine lv_iload hx hb dX8_byTurns_194 (lv_at hl 0 rfl) ?_
            refine lv_if_lt (tgt := 288) hx hb dX8_byTurns_196 (by decide) (fun c_ => absurd c_ (cdn_lt (by omega) hii1)) (fun _ => ?_)
            obtain ⟨sd, hsd, hsd8⟩ := cdn_shl (n := j_2) (i := ii1) (by omega) hii1
            refine lv_iconst (v := 0) hx hb dX8_byTurns_199 (by decide) ?_
            refine lv_istore (lv' := [(5, .int 0), (4, .int (cdn j_2 ii1)), (3, .int (nI (8 + z_11))), (0, .ref mo), (1, .int (nI j_2)), (2, .int (nI j_5))]) hx hb dX8_byTurns_200 hl (by decide) rfl (fun ls hl => ?_)
            refine lp_go (σ := (Nat → Int32)) (fun ii2 (st : (Nat → Int32)) H locs ls => match st with | w_500 => lv_has ls 8 [(5, .int (nI ii2)), (4, .int (cdn j_2 ii1)), (3, .int (nI (8 + z_11))), (0, .ref mo), (1, .int (nI j_2)), (2, .int (nI j_5))] ∧ va_P (dC, dI) vwCl [(m_wo, .inl (cI, 16, .inl w_500)), (mo, .inr (8, [.ref m_la, .ref m_sz, .ref m_it, .int ms, .int mt, .ref m_st, .ref m_mv, .ref m_tp, .int (nI mz), .int ml, .int (nI mp), .int mk, .int mv, .int mb, .int mw, .ref m_rd, .ref m_ac, .int (nI ma), .ref m_as, .ref m_wo, .ref m_ik, .ref m_ke, .ref m_tr, .int (nI mx)])), (m_st, .inl (cI, 38, .inl w_123)), (m_as, .inl (cI, 38, .inl fan_8))] H ∧ va_D A [(m_wo, .inl (cI, 16, .inl w_500)), (mo, .inr (8, [.ref m_la, .ref m_sz, .ref m_it, .int ms, .int mt, .ref m_st, .ref m_mv, .ref m_tp, .int (nI mz), .int ml, .int (nI mp), .int mk, .int mv, .int mb, .int mw, .ref m_rd, .ref m_ac, .int (nI ma), .ref m_as, .ref m_wo, .ref m_ik, .ref m_ke, .ref m_tr, .int (nI mx)])), (m_st, .inl (cI, 38, .inl w_123)), (m_as, .inl (cI, 38, .inl fan_8))] ∧ va_S A s.heap H locs ∧ okM w_123 w9 k9 h9 ∧ (∀ q : Nat, q < ii2 → w_500 q = wVV j_5 j_2 (m38 fs) (j_2 - 1 - ii1) q) ∧ (∀ q : Nat, 2 * ii2 ≤ q → q < 2 ^ (j_2 - ii1) → w_500 q = wVV j_5 j_2 (m38 fs) (j_2 - ii1) q)) sd ?_ ?_ 0 (by omega) (w_412) ⟨lv_sub hl [0, 1, 2, 3, 4, 5] rfl, hP.sub (ws' := [(m_wo, .inl (cI, 16, .inl w_412)), (mo, .inr (8, [.ref m_la, .ref m_sz, .ref m_it, .int ms, .int mt, .ref m_st, .ref m_mv, .ref m_tp, .int (nI mz), .int ml, .int (nI mp), .int mk, .int mv, .int mb, .int mw, .ref m_rd, .ref m_ac, .int (nI ma), .ref m_as, .ref m_wo, .ref m_ik, .ref m_ke, .ref m_tr, .int (nI mx)])), (m_st, .inl (cI, 38, .inl w_123)), (m_as, .inl (cI, 38, .inl fan_8))]) [0, 1, 2, 3] rfl, hD.sub (ws' := [(m_wo, .inl (cI, 16, .inl w_412)), (mo, .inr (8, [.ref m_la, .ref m_sz, .ref m_it, .int ms, .int mt, .ref m_st, .ref m_mv, .ref m_tp, .int (nI mz), .int ml, .int (nI mp), .int mk, .int mv, .int mb, .int mw, .ref m_rd, .ref m_ac, .int (nI ma), .ref m_as, .ref m_wo, .ref m_ik, .ref m_ke, .ref m_tr, .int (nI mx)])), (m_st, .inl (cI, 38, .inl w_123)), (m_as, .inl (cI, 38, .inl fan_8))]) [0, 1, 2, 3] (by decide +kernel) rfl, hS, hMl, (fun q h_ => absurd h_ (Nat.not_lt_zero q)), (fun q _ h_ => haii1_0 q h_)⟩
            · rintro ii2 w_500 H locs ls hii2 ⟨hl, hP, hD, hS, hMl, haii2_0, haii2_1⟩ ih
              refine lv_iload hx hb dX8_byTurns_202 (lv_at hl 0 rfl) ?_
              refine lv_iconst (v := 1) hx hb dX8_byTurns_204 (by decide) ?_
              refine lv_iload hx hb dX8_byTurns_205 (lv_at hl 1 rfl) ?_
              refine lv_ishl hx hb dX8_byTurns_207 ?_
              refine lv_topi (fun v_522 e_522 => ?_)
              obtain rfl : v_522 = (nI sd) := (e_522).trans hsd
              refine lv_icmp_ge (tgt := 282) hx hb dX8_byTurns_208 (by decide) (fun c_ => absurd c_ (fun q_ => absurd ((nI_leI (a := sd) (b := ii2) (by omega) (by omega)).mp q_) (by omega))) (fun _ => ?_)
              refine lv_aload_n hx hb dX8_byTurns_211 rfl (lv_at hl 3 rfl) ?_
              refine va_get (D := (dC, dI)) (ci := 8) (v := .ref m_wo) (C := RX8) (T := TX8) (N := 24) hx hb hts i_X8_byTurns_X8 hown hK hP 1 rfl rfl 19 (by decide) (hts (.fieldLink RX8 37 "MillTalkModel" "worths" "[I") (by decide +kernel)) (fun _ h9 => h9) rfl dX8_byTurns_212 ?_
              refine lv_iconst (v := 2) hx hb dX8_byTurns_215 (by decide) ?_
              refine lv_iload hx hb dX8_byTurns_216 (lv_at hl 0 rfl) ?_
              refine lv_imul hx hb dX8_byTurns_218 ?_
              refine lv_topi (fun v_524 e_524 => ?_)
              obtain rfl : v_524 = (nI (2 * ii2)) := (e_524).trans (pk_mul 2 ii2)
              refine va_iald hx hb hK hP 0 0 rfl rfl (vp_in_nI (by omega) (by omega)) dX8_byTurns_219 ?_
              refine lv_topi (fun v_525 e_525 => ?_)
              have e_525 : v_525 = w_500 (2 * ii2) := e_525.trans (congrArg w_500 (nI_clamp (by omega)))
              refine lv_istore (lv' := [(6, .int v_525), (5, .int (nI ii2)), (4, .int (cdn j_2 ii1)), (3, .int (nI (8 + z_11))), (0, .ref mo), (1, .int (nI j_2)), (2, .int (nI j_5))]) hx hb dX8_byTurns_220 hl (by decide) rfl (fun ls hl => ?_)
              refine lv_aload_n hx hb dX8_byTurns_222 rfl (lv_at hl 4 rfl) ?_
              refine va_get (D := (dC, dI)) (ci := 8) (v := .ref m_wo) (C := RX8) (T := TX8) (N := 24) hx hb hts i_X8_byTurns_X8 hown hK hP 1 rfl rfl 19 (by decide) (hts (.fieldLink RX8 37 "MillTalkModel" "worths" "[I") (by decide +kernel)) (fun _ h9 => h9) rfl dX8_byTurns_223 ?_
              refine lv_iconst (v := 2) hx hb dX8_byTurns_226 (by decide) ?_
              refine lv_iload hx hb dX8_byTurns_227 (lv_at hl 1 rfl) ?_
              refine lv_imul hx hb dX8_byTurns_229 ?_
              refine lv_topi (fun v_526 e_526 => ?_)
              obtain rfl : v_526 = (nI (2 * ii2)) := (e_526).trans (pk_mul 2 ii2)
              refine lv_iconst (v := 1) hx hb dX8_byTurns_230 (by decide) ?_
              refine lv_iadd hx hb dX8_byTurns_231 ?_
              refine lv_topi (fun v_527 e_527 => ?_)
              obtain rfl : v_527 = (nI ((2 * ii2) + 1)) := (e_527).trans (nI_add (2 * ii2) 1)
              refine va_iald hx hb hK hP 0 0 rfl rfl (vp_in_nI (by omega) (by omega)) dX8_byTurns_232 ?_
              refine lv_topi (fun v_528 e_528 => ?_)
              have e_528 : v_528 = w_500 ((2 * ii2) + 1) := e_528.trans (congrArg w_500 (nI_clamp (by omega)))
              refine lv_istore (lv' := [(7, .int v_528), (6, .int v_525), (5, .int (nI ii2)), (4, .int (cdn j_2 ii1)), (3, .int (nI (8 + z_11))), (0, .ref mo), (1, .int (nI j_2)), (2, .int (nI j_5))]) hx hb dX8_byTurns_233 hl (by decide) rfl (fun ls hl => ?_)
              refine lv_aload_n hx hb dX8_byTurns_235 rfl (lv_at hl 5 rfl) ?_
              refine va_get (D := (dC, dI)) (ci := 8) (v := .ref m_wo) (C := RX8) (T := TX8) (N := 24) hx hb hts i_X8_byTurns_X8 hown hK hP 1 rfl rfl 19 (by decide) (hts (.fieldLink RX8 37 "MillTalkModel" "worths" "[I") (by decide +kernel)) (fun _ h9 => h9) rfl dX8_byTurns_236 ?_
              refine lv_iload hx hb dX8_byTurns_239 (lv_at hl 2 rfl) ?_
              refine lv_iload hx hb dX8_byTurns_241 (lv_at hl 1 rfl) ?_
              refine lv_iload hx hb dX8_byTurns_243 (lv_at hl 0 rfl) ?_
              refine lv_icmp_le (tgt := 252) hx hb dX8_byTurns_245 (by decide) (fun c_529 => ?_) (fun c_529 => ?_)
              · skip
                refine lv_iconst (v := 0) hx hb dX8_byTurns_252 (by decide) ?_
                refine lv_iload hx hb dX8_byTurns_253 (lv_at hl 3 rfl) ?_
                refine lv_iconst (v := 2) hx hb dX8_byTurns_255 (by decide) ?_
                refine lv_irem hx hb dX8_byTurns_256 (by decide) ?_
                refine lv_topi (fun v_530 e_530 => ?_)
                refine lv_if_ne (tgt := 264) hx hb dX8_byTurns_257 (by decide) (fun c_531 => ?_) (fun c_531 => ?_)
                · skip
                  refine lv_iconst (v := 0) hx hb dX8_byTurns_264 (by decide) ?_
                  refine lv_icmp_ne (tgt := 273) hx hb dX8_byTurns_265 (by decide) (fun c_ => absurd (by decide) c_) (fun _ => ?_)
                  refine lv_iload hx hb dX8_byTurns_268 (lv_at hl 1 rfl) ?_
                  refine lv_goto (tgt := 275) hx hb dX8_byTurns_270 (by decide) ?_
                  refine va_iast hx hb hK hP hD hS 0 0 rfl rfl (vp_in_nI (by omega) (by omega)) dX8_byTurns_275 (fun H locs hP hD hS => ?_)
                  generalize hg_533 : upd w_500 ((nI ii2) : Int32).toNatClampNeg v_525 = g_533 at hP hD
                  have hu_533 : g_533 = upd w_500 ii2 v_525 := (by rw [← hg_533, nI_clamp (by omega)])
                  have hP : va_P (dC, dI) vwCl [(m_wo, .inl (cI, 16, .inl g_533)), (mo, .inr (8, [.ref m_la, .ref m_sz, .ref m_it, .int ms, .int mt, .ref m_st, .ref m_mv, .ref m_tp, .int (nI mz), .int ml, .int (nI mp), .int mk, .int mv, .int mb, .int mw, .ref m_rd, .ref m_ac, .int (nI ma), .ref m_as, .ref m_wo, .ref m_ik, .ref m_ke, .ref m_tr, .int (nI mx)])), (m_st, .inl (cI, 38, .inl w_123)), (m_as, .inl (cI, 38, .inl fan_8))] H := hP
                  have hD := dto hP hD
                  refine lv_iinc (v := (nI (ii2 + 1))) (lv' := [(5, .int (nI (ii2 + 1))), (7, .int v_528), (6, .int v_525), (4, .int (cdn j_2 ii1)), (3, .int (nI (8 + z_11))), (0, .ref mo), (1, .int (nI j_2)), (2, .int (nI j_5))]) hx hb dX8_byTurns_276 hl (k := 2) rfl (nI_add ii2 1) (by decide) rfl (fun ls hl => ?_)
                  refine lv_goto (tgt := 202) hx hb dX8_byTurns_279 (by decide) ?_
                  exact ih (g_533) _ _ _ ⟨lv_sub hl [0, 3, 4, 5, 6, 7] rfl, hP.sub (ws' := [(m_wo, .inl (cI, 16, .inl g_533)), (mo, .inr (8, [.ref m_la, .ref m_sz, .ref m_it, .int ms, .int mt, .ref m_st, .ref m_mv, .ref m_tp, .int (nI mz), .int ml, .int (nI mp), .int mk, .int mv, .int mb, .int mw, .ref m_rd, .ref m_ac, .int (nI ma), .ref m_as, .ref m_wo, .ref m_ik, .ref m_ke, .ref m_tr, .int (nI mx)])), (m_st, .inl (cI, 38, .inl w_123)), (m_as, .inl (cI, 38, .inl fan_8))]) [0, 1, 2, 3] rfl, hD.sub (ws' := [(m_wo, .inl (cI, 16, .inl g_533)), (mo, .inr (8, [.ref m_la, .ref m_sz, .ref m_it, .int ms, .int mt, .ref m_st, .ref m_mv, .ref m_tp, .int (nI mz), .int ml, .int (nI mp), .int mk, .int mv, .int mb, .int mw, .ref m_rd, .ref m_ac, .int (nI ma), .ref m_as, .ref m_wo, .ref m_ik, .ref m_ke, .ref m_tr, .int (nI mx)])), (m_st, .inl (cI, 38, .inl w_123)), (m_as, .inl (cI, 38, .inl fan_8))]) [0, 1, 2, 3] (by decide +kernel) rfl, hS, hMl, (lf_X8_byTurns_10 hM hT h999 hT0 c_1 hkn1 hw1 h01 f_2_1_0 q_2 hj_2 f_5_1_0 q_5 hj_5 hF_8_0 hsh hs4 hz_11 hze_11 haf_0 haf_1 e_346 hii1 haii1_0 hsd hsd8 hii2 haii2_0 haii2_1 hMl e_525 e_528 c_529 e_530 c_531 hu_533), (lf_X8_byTurns_11 hM hT h999 hT0 c_1 hkn1 hw1 h01 f_2_1_0 q_2 hj_2 f_5_1_0 q_5 hj_5 hF_8_0 hsh hs4 hz_11 hze_11 haf_0 haf_1 e_346 hii1 haii1_0 hsd hsd8 hii2 haii2_0 haii2_1 hMl e_525 e_528 c_529 e_530 c_531 hu_533)⟩
                · skip
                  refine lv_iconst (v := 1) hx hb dX8_byTurns_260 (by decide) ?_
                  refine lv_goto (tgt := 265) hx hb dX8_byTurns_261 (by decide) ?_
                  refine lv_icmp_ne (tgt := 273) hx hb dX8_byTurns_265 (by decide) (fun _ => ?_) (fun c_ => absurd c_ (by decide))
                  refine lv_iload hx hb dX8_byTurns_273 (lv_at hl 0 rfl) ?_
                  refine va_iast hx hb hK hP hD hS 0 0 rfl rfl (vp_in_nI (by omega) (by omega)) dX8_byTurns_275 (fun H locs hP hD hS => ?_)
                  generalize hg_535 : upd w_500 ((nI ii2) : Int32).toNatClampNeg v_528 = g_535 at hP hD
                  have hu_535 : g_535 = upd w_500 ii2 v_528 := (by rw [← hg_535, nI_clamp (by omega)])
                  have hP : va_P (dC, dI) vwCl [(m_wo, .inl (cI, 16, .inl g_535)), (mo, .inr (8, [.ref m_la, .ref m_sz, .ref m_it, .int ms, .int mt, .ref m_st, .ref m_mv, .ref m_tp, .int (nI mz), .int ml, .int (nI mp), .int mk, .int mv, .int mb, .int mw, .ref m_rd, .ref m_ac, .int (nI ma), .ref m_as, .ref m_wo, .ref m_ik, .ref m_ke, .ref m_tr, .int (nI mx)])), (m_st, .inl (cI, 38, .inl w_123)), (m_as, .inl (cI, 38, .inl fan_8))] H := hP
                  have hD := dto hP hD
                  refine lv_iinc (v := (nI (ii2 + 1))) (lv' := [(5, .int (nI (ii2 + 1))), (7, .int v_528), (6, .int v_525), (4, .int (cdn j_2 ii1)), (3, .int (nI (8 + z_11))), (0, .ref mo), (1, .int (nI j_2)), (2, .int (nI j_5))]) hx hb dX8_byTurns_276 hl (k := 2) rfl (nI_add ii2 1) (by decide) rfl (fun ls hl => ?_)
                  refine lv_goto (tgt := 202) hx hb dX8_byTurns_279 (by decide) ?_
                  exact ih (g_535) _ _ _ ⟨lv_sub hl [0, 3, 4, 5, 6, 7] rfl, hP.sub (ws' := [(m_wo, .inl (cI, 16, .inl g_535)), (mo, .inr (8, [.ref m_la, .ref m_sz, .ref m_it, .int ms, .int mt, .ref m_st, .ref m_mv, .ref m_tp, .int (nI mz), .int ml, .int (nI mp), .int mk, .int mv, .int mb, .int mw, .ref m_rd, .ref m_ac, .int (nI ma), .ref m_as, .ref m_wo, .ref m_ik, .ref m_ke, .ref m_tr, .int (nI mx)])), (m_st, .inl (cI, 38, .inl w_123)), (m_as, .inl (cI, 38, .inl fan_8))]) [0, 1, 2, 3] rfl, hD.sub (ws' := [(m_wo, .inl (cI, 16, .inl g_535)), (mo, .inr (8, [.ref m_la, .ref m_sz, .ref m_it, .int ms, .int mt, .ref m_st, .ref m_mv, .ref m_tp, .int (nI mz), .int ml, .int (nI mp), .int mk, .int mv, .int mb, .int mw, .ref m_rd, .ref m_ac, .int (nI ma), .ref m_as, .ref m_wo, .ref m_ik, .ref m_ke, .ref m_tr, .int (nI mx)])), (m_st, .inl (cI, 38, .inl w_123)), (m_as, .inl (cI, 38, .inl fan_8))]) [0, 1, 2, 3] (by decide +kernel) rfl, hS, hMl, (lf_X8_byTurns_12 hM hT h999 hT0 c_1 hkn1 hw1 h01 f_2_1_0 q_2 hj_2 f_5_1_0 q_5 hj_5 hF_8_0 hsh hs4 hz_11 hze_11 haf_0 haf_1 e_346 hii1 haii1_0 hsd hsd8 hii2 haii2_0 haii2_1 hMl e_525 e_528 c_529 e_530 c_531 hu_535), (lf_X8_byTurns_13 hM hT h999 hT0 c_1 hkn1 hw1 h01 f_2_1_0 q_2 hj_2 f_5_1_0 q_5 hj_5 hF_8_0 hsh hs4 hz_11 hze_11 haf_0 haf_1 e_346 hii1 haii1_0 hsd hsd8 hii2 haii2_0 haii2_1 hMl e_525 e_528 c_529 e_530 c_531 hu_535)⟩
              · skip
                refine lv_iconst (v := 1) hx hb dX8_byTurns_248 (by decide) ?_
                refine lv_goto (tgt := 253) hx hb dX8_byTurns_249 (by decide) ?_
                refine lv_iload hx hb dX8_byTurns_253 (lv_at hl 3 rfl) ?_
                refine lv_iconst (v := 2) hx hb dX8_byTurns_255 (by decide) ?_
                refine lv_irem hx hb dX8_byTurns_256 (by decide) ?_
                refine lv_topi (fun v_536 e_536 => ?_)
                refine lv_if_ne (tgt := 264) hx hb dX8_byTurns_257 (by decide) (fun c_537 => ?_) (fun c_537 => ?_)
                · skip
                  refine lv_iconst (v := 0) hx hb dX8_byTurns_264 (by decide) ?_
                  refine lv_icmp_ne (tgt := 273) hx hb dX8_byTurns_265 (by decide) (fun _ => ?_) (fun c_ => absurd c_ (by decide))
                  refine lv_iload hx hb dX8_byTurns_273 (lv_at hl 0 rfl) ?_
                  refine va_iast hx hb hK hP hD hS 0 0 rfl rfl (vp_in_nI (by omega) (by omega)) dX8_byTurns_275 (fun H locs hP hD hS => ?_)
                  generalize hg_539 : upd w_500 ((nI ii2) : Int32).toNatClampNeg v_528 = g_539 at hP hD
                  have hu_539 : g_539 = upd w_500 ii2 v_528 := (by rw [← hg_539, nI_clamp (by omega)])
                  have hP : va_P (dC, dI) vwCl [(m_wo, .inl (cI, 16, .inl g_539)), (mo, .inr (8, [.ref m_la, .ref m_sz, .ref m_it, .int ms, .int mt, .ref m_st, .ref m_mv, .ref m_tp, .int (nI mz), .int ml, .int (nI mp), .int mk, .int mv, .int mb, .int mw, .ref m_rd, .ref m_ac, .int (nI ma), .ref m_as, .ref m_wo, .ref m_ik, .ref m_ke, .ref m_tr, .int (nI mx)])), (m_st, .inl (cI, 38, .inl w_123)), (m_as, .inl (cI, 38, .inl fan_8))] H := hP
                  have hD := dto hP hD
                  refine lv_iinc (v := (nI (ii2 + 1))) (lv' := [(5, .int (nI (ii2 + 1))), (7, .int v_528), (6, .int v_525), (4, .int (cdn j_2 ii1)), (3, .int (nI (8 + z_11))), (0, .ref mo), (1, .int (nI j_2)), (2, .int (nI j_5))]) hx hb dX8_byTurns_276 hl (k := 2) rfl (nI_add ii2 1) (by decide) rfl (fun ls hl => ?_)
                  refine lv_goto (tgt := 202) hx hb dX8_byTurns_279 (by decide) ?_
                  exact ih (g_539) _ _ _ ⟨lv_sub hl [0, 3, 4, 5, 6, 7] rfl, hP.sub (ws' := [(m_wo, .inl (cI, 16, .inl g_539)), (mo, .inr (8, [.ref m_la, .ref m_sz, .ref m_it, .int ms, .int mt, .ref m_st, .ref m_mv, .ref m_tp, .int (nI mz), .int ml, .int (nI mp), .int mk, .int mv, .int mb, .int mw, .ref m_rd, .ref m_ac, .int (nI ma), .ref m_as, .ref m_wo, .ref m_ik, .ref m_ke, .ref m_tr, .int (nI mx)])), (m_st, .inl (cI, 38, .inl w_123)), (m_as, .inl (cI, 38, .inl fan_8))]) [0, 1, 2, 3] rfl, hD.sub (ws' := [(m_wo, .inl (cI, 16, .inl g_539)), (mo, .inr (8, [.ref m_la, .ref m_sz, .ref m_it, .int ms, .int mt, .ref m_st, .ref m_mv, .ref m_tp, .int (nI mz), .int ml, .int (nI mp), .int mk, .int mv, .int mb, .int mw, .ref m_rd, .ref m_ac, .int (nI ma), .ref m_as, .ref m_wo, .ref m_ik, .ref m_ke, .ref m_tr, .int (nI mx)])), (m_st, .inl (cI, 38, .inl w_123)), (m_as, .inl (cI, 38, .inl fan_8))]) [0, 1, 2, 3] (by decide +kernel) rfl, hS, hMl, (lf_X8_byTurns_14 hM hT h999 hT0 c_1 hkn1 hw1 h01 f_2_1_0 q_2 hj_2 f_5_1_0 q_5 hj_5 hF_8_0 hsh hs4 hz_11 hze_11 haf_0 haf_1 e_346 hii1 haii1_0 hsd hsd8 hii2 haii2_0 haii2_1 hMl e_525 e_528 c_529 e_536 c_537 hu_539), (lf_X8_byTurns_15 hM hT h999 hT0 c_1 hkn1 hw1 h01 f_2_1_0 q_2 hj_2 f_5_1_0 q_5 hj_5 hF_8_0 hsh hs4 hz_11 hze_11 haf_0 haf_1 e_346 hii1 haii1_0 hsd hsd8 hii2 haii2_0 haii2_1 hMl e_525 e_528 c_529 e_536 c_537 hu_539)⟩
                · skip
                  refine lv_iconst (v := 1) hx hb dX8_byTurns_260 (by decide) ?_
                  refine lv_goto (tgt := 265) hx hb dX8_byTurns_261 (by decide) ?_
                  refine lv_icmp_ne (tgt := 273) hx hb dX8_byTurns_265 (by decide) (fun c_ => absurd (by decide) c_) (fun _ => ?_)
                  refine lv_iload hx hb dX8_byTurns_268 (lv_at hl 1 rfl) ?_
                  refine lv_goto (tgt := 275) hx hb dX8_byTurns_270 (by decide) ?_
                  refine va_iast hx hb hK hP hD hS 0 0 rfl rfl (vp_in_nI (by omega) (by omega)) dX8_byTurns_275 (fun H locs hP hD hS => ?_)
                  generalize hg_541 : upd w_500 ((nI ii2) : Int32).toNatClampNeg v_525 = g_541 at hP hD
                  have hu_541 : g_541 = upd w_500 ii2 v_525 := (by rw [← hg_541, nI_clamp (by omega)])
                  have hP : va_P (dC, dI) vwCl [(m_wo, .inl (cI, 16, .inl g_541)), (mo, .inr (8, [.ref m_la, .ref m_sz, .ref m_it, .int ms, .int mt, .ref m_st, .ref m_mv, .ref m_tp, .int (nI mz), .int ml, .int (nI mp), .int mk, .int mv, .int mb, .int mw, .ref m_rd, .ref m_ac, .int (nI ma), .ref m_as, .ref m_wo, .ref m_ik, .ref m_ke, .ref m_tr, .int (nI mx)])), (m_st, .inl (cI, 38, .inl w_123)), (m_as, .inl (cI, 38, .inl fan_8))] H := hP
                  have hD := dto hP hD
                  refine lv_iinc (v := (nI (ii2 + 1))) (lv' := [(5, .int (nI (ii2 + 1))), (7, .int v_528), (6, .int v_525), (4, .int (cdn j_2 ii1)), (3, .int (nI (8 + z_11))), (0, .ref mo), (1, .int (nI j_2)), (2, .int (nI j_5))]) hx hb dX8_byTurns_276 hl (k := 2) rfl (nI_add ii2 1) (by decide) rfl (fun ls hl => ?_)
                  refine lv_goto (tgt := 202) hx hb dX8_byTurns_279 (by decide) ?_
                  exact ih (g_541) _ _ _ ⟨lv_sub hl [0, 3, 4, 5, 6, 7] rfl, hP.sub (ws' := [(m_wo, .inl (cI, 16, .inl g_541)), (mo, .inr (8, [.ref m_la, .ref m_sz, .ref m_it, .int ms, .int mt, .ref m_st, .ref m_mv, .ref m_tp, .int (nI mz), .int ml, .int (nI mp), .int mk, .int mv, .int mb, .int mw, .ref m_rd, .ref m_ac, .int (nI ma), .ref m_as, .ref m_wo, .ref m_ik, .ref m_ke, .ref m_tr, .int (nI mx)])), (m_st, .inl (cI, 38, .inl w_123)), (m_as, .inl (cI, 38, .inl fan_8))]) [0, 1, 2, 3] rfl, hD.sub (ws' := [(m_wo, .inl (cI, 16, .inl g_541)), (mo, .inr (8, [.ref m_la, .ref m_sz, .ref m_it, .int ms, .int mt, .ref m_st, .ref m_mv, .ref m_tp, .int (nI mz), .int ml, .int (nI mp), .int mk, .int mv, .int mb, .int mw, .ref m_rd, .ref m_ac, .int (nI ma), .ref m_as, .ref m_wo, .ref m_ik, .ref m_ke, .ref m_tr, .int (nI mx)])), (m_st, .inl (cI, 38, .inl w_123)), (m_as, .inl (cI, 38, .inl fan_8))]) [0, 1, 2, 3] (by decide +kernel) rfl, hS, hMl, (lf_X8_byTurns_16 hM hT h999 hT0 c_1 hkn1 hw1 h01 f_2_1_0 q_2 hj_2 f_5_1_0 q_5 hj_5 hF_8_0 hsh hs4 hz_11 hze_11 haf_0 haf_1 e_346 hii1 haii1_0 hsd hsd8 hii2 haii2_0 haii2_1 hMl e_525 e_528 c_529 e_536 c_537 hu_541), (lf_X8_byTurns_17 hM hT h999 hT0 c_1 hkn1 hw1 h01 f_2_1_0 q_2 hj_2 f_5_1_0 q_5 hj_5 hF_8_0 hsh hs4 hz_11 hze_11 haf_0 haf_1 e_346 hii1 haii1_0 hsd hsd8 hii2 haii2_0 haii2_1 hMl e_525 e_528 c_529 e_536 c_537 hu_541)⟩
            · rintro w_500 H locs ls ⟨hl, hP, hD, hS, hMl, haii2_0, haii2_1⟩
              refine lv_iload hx hb dX8_byTurns_202 (lv_at hl 0 rfl) ?_
              refine lv_iconst (v := 1) hx hb dX8_byTurns_204 (by decide) ?_
              refine lv_iload hx hb dX8_byTurns_205 (lv_at hl 1 rfl) ?_
              refine lv_ishl hx hb dX8_byTurns_207 ?_
              refine lv_topi (fun v_542 e_542 => ?_)
              obtain rfl : v_542 = (nI sd) := (e_542).trans hsd
              refine lv_icmp_ge (tgt := 282) hx hb dX8_byTurns_208 (by decide) (fun _ => ?_) (fun c_ => absurd ((nI_leI (a := sd) (b := sd) (by omega) (by omega)).mpr (by omega)) c_)
              refine lv_iinc (v := (cdn j_2 (ii1 + 1))) (lv' := [(4, .int (cdn j_2 (ii1 + 1))), (5, .int (nI sd)), (3, .int (nI (8 + z_11))), (0, .ref mo), (1, .int (nI j_2)), (2, .int (nI j_5))]) hx hb dX8_byTurns_282 hl (k := 1) rfl (cdn_s (by omega) hii1) (by decide) rfl (fun ls hl => ?_)
              refine lv_goto (tgt := 194) hx hb dX8_byTurns_285 (by decide) ?_
              exact ih (w_500) _ _ _ ⟨lv_sub hl [0, 2, 3, 4, 5] rfl, hP.sub (ws' := [(m_wo, .inl (cI, 16, .inl w_500)), (mo, .inr (8, [.ref m_la, .ref m_sz, .ref m_it, .int ms, .int mt, .ref m_st, .ref m_mv, .ref m_tp, .int (nI mz), .int ml, .int (nI mp), .int mk, .int mv, .int mb, .int mw, .ref m_rd, .ref m_ac, .int (nI ma), .ref m_as, .ref m_wo, .ref m_ik, .ref m_ke, .ref m_tr, .int (nI mx)])), (m_st, .inl (cI, 38, .inl w_123)), (m_as, .inl (cI, 38, .inl fan_8))]) [0, 1, 2, 3] rfl, hD.sub (ws' := [(m_wo, .inl (cI, 16, .inl w_500)), (mo, .inr (8, [.ref m_la, .ref m_sz, .ref m_it, .int ms, .int mt, .ref m_st, .ref m_mv, .ref m_tp, .int (nI mz), .int ml, .int (nI mp), .int mk, .int mv, .int mb, .int mw, .ref m_rd, .ref m_ac, .int (nI ma), .ref m_as, .ref m_wo, .ref m_ik, .ref m_ke, .ref m_tr, .int (nI mx)])), (m_st, .inl (cI, 38, .inl w_123)), (m_as, .inl (cI, 38, .inl fan_8))]) [0, 1, 2, 3] (by decide +kernel) rfl, hS, hMl, (lf_X8_byTurns_18 hM hT h999 hT0 c_1 hkn1 hw1 h01 f_2_1_0 q_2 hj_2 f_5_1_0 q_5 hj_5 hF_8_0 hsh hs4 hz_11 hze_11 haf_0 haf_1 e_346 hii1 haii1_0 hsd hsd8 haii2_0 haii2_1 hMl)⟩
          · rintro w_412 H locs ls ⟨hl, hP, hD, hS, hMl, haii1_0⟩
            refine lv_iload hx hb dX8_byTurns_194 (lv_at hl 0 rfl) ?_
            refine lv_if_lt (tgt := 288) hx hb dX8_byTurns_196 (by decide) (fun _ => ?_) (fun c_ => absurd (cdn_end (by omega)) c_)
            refine lv_aload_n hx hb dX8_byTurns_288 rfl (lv_at hl 2 rfl) ?_
            refine va_get (D := (dC, dI)) (ci := 8) (v := .ref m_wo) (C := RX8) (T := TX8) (N := 24) hx hb hts i_X8_byTurns_X8 hown hK hP 1 rfl rfl 19 (by decide) (hts (.fieldLink RX8 37 "MillTalkModel" "worths" "[I") (by decide +kernel)) (fun _ h9 => h9) rfl dX8_byTurns_289 ?_
            refine lv_iconst (v := 0) hx hb dX8_byTurns_292 (by decide) ?_
            refine va_iald hx hb hK hP 0 0 rfl rfl (by unfold vp_in; decide) dX8_byTurns_293 ?_
            refine lv_topi (fun v_545 e_545 => ?_)
            have e_545 : v_545 = w_412 0 := e_545
            have hX9 := cut2 (wc := [(mo, .inr (8, [.ref m_la, .ref m_sz, .ref m_it, .int ms, .int mt, .ref m_st, .ref m_mv, .ref m_tp, .int (nI mz), .int ml, .int (nI mp), .int mk, .int mv, .int mb, .int mw, .ref m_rd, .ref m_ac, .int (nI ma), .ref m_as, .ref m_wo, .ref m_ik, .ref m_ke, .ref m_tr, .int (nI mx)])), (m_st, .inl (cI, 38, .inl w_123)), (m_as, .inl (cI, 38, .inl fan_8)), (m_wo, .inl (cI, 16, .inl w_412))]) hP hD [1, 2, 3, 0] (by decide +kernel) rfl
            exact W.iret (v := v_545) hx hb hr (fun t ht hW => ⟨⟨v_545, (), rfl, (lf_X8_byTurns_19 hM hT h999 hT0 c_1 hkn1 hw1 h01 f_2_1_0 q_2 hj_2 f_5_1_0 q_5 hj_5 hF_8_0 hsh hs4 hz_11 hze_11 haf_0 haf_1 e_346 haii1_0 hMl e_545), ⟨w_123, fan_8, w_412, by rw [ht]; exact hX9.1, hX9.2, hMl, haf_1⟩⟩, hS.F ht⟩) hS.2.2 dX8_byTurns_294
  · skip
    have h00 : fs 0 = 0 := (hT0 c_1).1
    refine lv_ldc (own := RX8) (v := (-1000002)) hx hb hown (hts (.constant RX8 161 (-1000002)) (by decide +kernel)) dX8_byTurns_7 ?_
    have hX9 := cut2 (wc := [(mo, .inr (8, [.ref m_la, .ref m_sz, .ref m_it, .int ms, .int mt, .ref m_st, .ref m_mv, .ref m_tp, .int (nI mz), .int ml, .int (nI mp), .int mk, .int mv, .int mb, .int mw, .ref m_rd, .ref m_ac, .int (nI ma), .ref m_as, .ref m_wo, .ref m_ik, .ref m_ke, .ref m_tr, .int (nI mx)])), (m_st, .inl (cI, 38, .inl fs)), (m_as, .inl (cI, 38, .inl fa)), (m_wo, .inl (cI, 16, .inl fw))]) hP hD [0, 1, 2, 3] (by decide +kernel) rfl
    exact W.iret (v := (-1000002)) hx hb hr (fun t ht hW => ⟨⟨(-1000002), (), rfl, (lf_X8_byTurns_20 hM hT h999 hT0 c_1 h00), ⟨fs, fa, fw, by rw [ht]; exact hX9.1, hX9.2, hM, rfl⟩⟩, hS.F ht⟩) hS.2.2 dX8_byTurns_9
