theorem lf_X8_nextToken_1 {mz : Nat} {mp : Nat} {ft_ : Nat → Int32} {w_41 : Nat} {w_42 : Int32} {v_88 : Int32} (hmp : mp ≤ mz) (hmz : mz ≤ 120) (c_1 : ¬ (mp = mz)) (haf_0 : (dgM ft_ mz (mz - w_41) w_42 w_41 = dgM ft_ mz (mz - mp) 0 mp)) (hnb_w_41 : mp ≤ w_41 ∧ w_41 ≤ mz) (c_85 : mz ≤ w_41) (c_86 : w_41 ≤ mp) (e_88 : v_88 = ft_ w_41) (f_89_0_0 : ((v_88).toInt64 < 97 ∨ 122 < (v_88).toInt64)) (c_91 : v_88 = 44) : (w_41 + 1) ≤ mz := by
  first
  | omega
  | (have h4 : ¬ (mp < mz ∧ isFig (ft_ mp)) := fun q => (by omega)
     have h5 : ¬ (w_41 < mz ∧ isFig (ft_ w_41)) := (by have h7 := @fig64; grind)
     rw [dgM_stop h5, dgM_stop h4] at haf_0
     simp only [nT, dgM_stop h4]
     grind)
  | (have h5 : ¬ (w_41 < mz ∧ isFig (ft_ w_41)) := (by have h7 := @fig64; grind)
     rw [dgM_stop h5] at haf_0
     simp only [nT, ← haf_0]
     have h6 := @let64
     grind)
theorem lf_X8_nextToken_2 {mz : Nat} {mp : Nat} {ft_ : Nat → Int32} {w_41 : Nat} {w_42 : Int32} {v_88 : Int32} (hmp : mp ≤ mz) (hmz : mz ≤ 120) (c_1 : ¬ (mp = mz)) (haf_0 : (dgM ft_ mz (mz - w_41) w_42 w_41 = dgM ft_ mz (mz - mp) 0 mp)) (hnb_w_41 : mp ≤ w_41 ∧ w_41 ≤ mz) (c_85 : mz ≤ w_41) (c_86 : w_41 ≤ mp) (e_88 : v_88 = ft_ w_41) (f_89_0_0 : ((v_88).toInt64 < 97 ∨ 122 < (v_88).toInt64)) (c_91 : v_88 = 44) : nT ft_ mz mp = (1, v_88, (nI mp), (w_41 + 1)) := by
  first
  | omega
  | (have h4 : ¬ (mp < mz ∧ isFig (ft_ mp)) := fun q => (by omega)
     have h5 : ¬ (w_41 < mz ∧ isFig (ft_ w_41)) := (by have h7 := @fig64; grind)
     rw [dgM_stop h5, dgM_stop h4] at haf_0
     simp only [nT, dgM_stop h4]
     grind)
  | (have h5 : ¬ (w_41 < mz ∧ isFig (ft_ w_41)) := (by have h7 := @fig64; grind)
     rw [dgM_stop h5] at haf_0
     simp only [nT, ← haf_0]
     have h6 := @let64
     grind)
theorem lf_X8_nextToken_3 {mz : Nat} {mp : Nat} {ft_ : Nat → Int32} {w_41 : Nat} {w_42 : Int32} {v_88 : Int32} (hmp : mp ≤ mz) (hmz : mz ≤ 120) (c_1 : ¬ (mp = mz)) (haf_0 : (dgM ft_ mz (mz - w_41) w_42 w_41 = dgM ft_ mz (mz - mp) 0 mp)) (hnb_w_41 : mp ≤ w_41 ∧ w_41 ≤ mz) (c_85 : mz ≤ w_41) (c_86 : w_41 ≤ mp) (e_88 : v_88 = ft_ w_41) (f_89_0_0 : ((v_88).toInt64 < 97 ∨ 122 < (v_88).toInt64)) (c_91 : ¬ (v_88 = 44)) (c_93 : ¬ (v_88 = 59)) : (w_41 + 1) ≤ mz := by
  first
  | omega
  | (have h4 : ¬ (mp < mz ∧ isFig (ft_ mp)) := fun q => (by omega)
     have h5 : ¬ (w_41 < mz ∧ isFig (ft_ w_41)) := (by have h7 := @fig64; grind)
     rw [dgM_stop h5, dgM_stop h4] at haf_0
     simp only [nT, dgM_stop h4]
     grind)
  | (have h5 : ¬ (w_41 < mz ∧ isFig (ft_ w_41)) := (by have h7 := @fig64; grind)
     rw [dgM_stop h5] at haf_0
     simp only [nT, ← haf_0]
     have h6 := @let64
     grind)
theorem lf_X8_nextToken_4 {mz : Nat} {mp : Nat} {ft_ : Nat → Int32} {w_41 : Nat} {w_42 : Int32} {v_88 : Int32} (hmp : mp ≤ mz) (hmz : mz ≤ 120) (c_1 : ¬ (mp = mz)) (haf_0 : (dgM ft_ mz (mz - w_41) w_42 w_41 = dgM ft_ mz (mz - mp) 0 mp)) (hnb_w_41 : mp ≤ w_41 ∧ w_41 ≤ mz) (c_85 : mz ≤ w_41) (c_86 : w_41 ≤ mp) (e_88 : v_88 = ft_ w_41) (f_89_0_0 : ((v_88).toInt64 < 97 ∨ 122 < (v_88).toInt64)) (c_91 : ¬ (v_88 = 44)) (c_93 : ¬ (v_88 = 59)) : nT ft_ mz mp = (0, v_88, (nI mp), (w_41 + 1)) := by
  first
  | omega
  | (have h4 : ¬ (mp < mz ∧ isFig (ft_ mp)) := fun q => (by omega)
     have h5 : ¬ (w_41 < mz ∧ isFig (ft_ w_41)) := (by have h7 := @fig64; grind)
     rw [dgM_stop h5, dgM_stop h4] at haf_0
     simp only [nT, dgM_stop h4]
     grind)
  | (have h5 : ¬ (w_41 < mz ∧ isFig (ft_ w_41)) := (by have h7 := @fig64; grind)
     rw [dgM_stop h5] at haf_0
     simp only [nT, ← haf_0]
     have h6 := @let64
     grind)
theorem lf_X8_nextToken_5 {mz : Nat} {mp : Nat} {ft_ : Nat → Int32} {w_41 : Nat} {w_42 : Int32} {v_88 : Int32} (hmp : mp ≤ mz) (hmz : mz ≤ 120) (c_1 : ¬ (mp = mz)) (haf_0 : (dgM ft_ mz (mz - w_41) w_42 w_41 = dgM ft_ mz (mz - mp) 0 mp)) (hnb_w_41 : mp ≤ w_41 ∧ w_41 ≤ mz) (c_85 : mz ≤ w_41) (c_86 : w_41 ≤ mp) (e_88 : v_88 = ft_ w_41) (f_89_0_0 : ((v_88).toInt64 < 97 ∨ 122 < (v_88).toInt64)) (c_91 : ¬ (v_88 = 44)) (c_93 : v_88 = 59) : (w_41 + 1) ≤ mz := by
  first
  | omega
  | (have h4 : ¬ (mp < mz ∧ isFig (ft_ mp)) := fun q => (by omega)
     have h5 : ¬ (w_41 < mz ∧ isFig (ft_ w_41)) := (by have h7 := @fig64; grind)
     rw [dgM_stop h5, dgM_stop h4] at haf_0
     simp only [nT, dgM_stop h4]
     grind)
  | (have h5 : ¬ (w_41 < mz ∧ isFig (ft_ w_41)) := (by have h7 := @fig64; grind)
     rw [dgM_stop h5] at haf_0
     simp only [nT, ← haf_0]
     have h6 := @let64
     grind)
theorem lf_X8_nextToken_6 {mz : Nat} {mp : Nat} {ft_ : Nat → Int32} {w_41 : Nat} {w_42 : Int32} {v_88 : Int32} (hmp : mp ≤ mz) (hmz : mz ≤ 120) (c_1 : ¬ (mp = mz)) (haf_0 : (dgM ft_ mz (mz - w_41) w_42 w_41 = dgM ft_ mz (mz - mp) 0 mp)) (hnb_w_41 : mp ≤ w_41 ∧ w_41 ≤ mz) (c_85 : mz ≤ w_41) (c_86 : w_41 ≤ mp) (e_88 : v_88 = ft_ w_41) (f_89_0_0 : ((v_88).toInt64 < 97 ∨ 122 < (v_88).toInt64)) (c_91 : ¬ (v_88 = 44)) (c_93 : v_88 = 59) : nT ft_ mz mp = (1, v_88, (nI mp), (w_41 + 1)) := by
  first
  | omega
  | (have h4 : ¬ (mp < mz ∧ isFig (ft_ mp)) := fun q => (by omega)
     have h5 : ¬ (w_41 < mz ∧ isFig (ft_ w_41)) := (by have h7 := @fig64; grind)
     rw [dgM_stop h5, dgM_stop h4] at haf_0
     simp only [nT, dgM_stop h4]
     grind)
  | (have h5 : ¬ (w_41 < mz ∧ isFig (ft_ w_41)) := (by have h7 := @fig64; grind)
     rw [dgM_stop h5] at haf_0
     simp only [nT, ← haf_0]
     have h6 := @let64
     grind)
theorem lf_X8_nextToken_7 {mz : Nat} {mp : Nat} {ft_ : Nat → Int32} {w_41 : Nat} {w_42 : Int32} {v_88 : Int32} (hmp : mp ≤ mz) (hmz : mz ≤ 120) (c_1 : ¬ (mp = mz)) (haf_0 : (dgM ft_ mz (mz - w_41) w_42 w_41 = dgM ft_ mz (mz - mp) 0 mp)) (hnb_w_41 : mp ≤ w_41 ∧ w_41 ≤ mz) (c_85 : mz ≤ w_41) (c_86 : w_41 ≤ mp) (e_88 : v_88 = ft_ w_41) (f_89_1_0 : (¬ ((v_88).toInt64 < 97 ∨ 122 < (v_88).toInt64))) : (w_41 + 1) ≤ mz := by
  first
  | omega
  | (have h4 : ¬ (mp < mz ∧ isFig (ft_ mp)) := fun q => (by omega)
     have h5 : ¬ (w_41 < mz ∧ isFig (ft_ w_41)) := (by have h7 := @fig64; grind)
     rw [dgM_stop h5, dgM_stop h4] at haf_0
     simp only [nT, dgM_stop h4]
     grind)
  | (have h5 : ¬ (w_41 < mz ∧ isFig (ft_ w_41)) := (by have h7 := @fig64; grind)
     rw [dgM_stop h5] at haf_0
     simp only [nT, ← haf_0]
     have h6 := @let64
     grind)
theorem lf_X8_nextToken_8 {mz : Nat} {mp : Nat} {ft_ : Nat → Int32} {w_41 : Nat} {w_42 : Int32} {v_88 : Int32} (hmp : mp ≤ mz) (hmz : mz ≤ 120) (c_1 : ¬ (mp = mz)) (haf_0 : (dgM ft_ mz (mz - w_41) w_42 w_41 = dgM ft_ mz (mz - mp) 0 mp)) (hnb_w_41 : mp ≤ w_41 ∧ w_41 ≤ mz) (c_85 : mz ≤ w_41) (c_86 : w_41 ≤ mp) (e_88 : v_88 = ft_ w_41) (f_89_1_0 : (¬ ((v_88).toInt64 < 97 ∨ 122 < (v_88).toInt64))) : nT ft_ mz mp = (1, v_88, (nI mp), (w_41 + 1)) := by
  first
  | omega
  | (have h4 : ¬ (mp < mz ∧ isFig (ft_ mp)) := fun q => (by omega)
     have h5 : ¬ (w_41 < mz ∧ isFig (ft_ w_41)) := (by have h7 := @fig64; grind)
     rw [dgM_stop h5, dgM_stop h4] at haf_0
     simp only [nT, dgM_stop h4]
     grind)
  | (have h5 : ¬ (w_41 < mz ∧ isFig (ft_ w_41)) := (by have h7 := @fig64; grind)
     rw [dgM_stop h5] at haf_0
     simp only [nT, ← haf_0]
     have h6 := @let64
     grind)
theorem lf_X8_nextToken_9 {mz : Nat} {mp : Nat} {ft_ : Nat → Int32} {w_41 : Nat} {w_42 : Int32} (hmp : mp ≤ mz) (hmz : mz ≤ 120) (c_1 : ¬ (mp = mz)) (haf_0 : (dgM ft_ mz (mz - w_41) w_42 w_41 = dgM ft_ mz (mz - mp) 0 mp)) (hnb_w_41 : mp ≤ w_41 ∧ w_41 ≤ mz) (c_85 : mz ≤ w_41) (c_86 : ¬ (w_41 ≤ mp)) (c_99 : (w_41 - mp) ≤ 2) : w_41 ≤ mz := by
  first
  | omega
  | (have h4 : ¬ (mp < mz ∧ isFig (ft_ mp)) := fun q => (by omega)
     have h5 : ¬ (w_41 < mz ∧ isFig (ft_ w_41)) := (by have h7 := @fig64; grind)
     rw [dgM_stop h5, dgM_stop h4] at haf_0
     simp only [nT, dgM_stop h4]
     grind)
  | (have h5 : ¬ (w_41 < mz ∧ isFig (ft_ w_41)) := (by have h7 := @fig64; grind)
     rw [dgM_stop h5] at haf_0
     simp only [nT, ← haf_0]
     have h6 := @let64
     grind)
theorem lf_X8_nextToken_10 {mz : Nat} {mp : Nat} {ft_ : Nat → Int32} {w_41 : Nat} {w_42 : Int32} (hmp : mp ≤ mz) (hmz : mz ≤ 120) (c_1 : ¬ (mp = mz)) (haf_0 : (dgM ft_ mz (mz - w_41) w_42 w_41 = dgM ft_ mz (mz - mp) 0 mp)) (hnb_w_41 : mp ≤ w_41 ∧ w_41 ≤ mz) (c_85 : mz ≤ w_41) (c_86 : ¬ (w_41 ≤ mp)) (c_99 : (w_41 - mp) ≤ 2) : nT ft_ mz mp = (2, w_42, (nI mp), w_41) := by
  first
  | omega
  | (have h4 : ¬ (mp < mz ∧ isFig (ft_ mp)) := fun q => (by omega)
     have h5 : ¬ (w_41 < mz ∧ isFig (ft_ w_41)) := (by have h7 := @fig64; grind)
     rw [dgM_stop h5, dgM_stop h4] at haf_0
     simp only [nT, dgM_stop h4]
     grind)
  | (have h5 : ¬ (w_41 < mz ∧ isFig (ft_ w_41)) := (by have h7 := @fig64; grind)
     rw [dgM_stop h5] at haf_0
     simp only [nT, ← haf_0]
     have h6 := @let64
     grind)
theorem lf_X8_nextToken_11 {mz : Nat} {mp : Nat} {ft_ : Nat → Int32} {w_41 : Nat} {w_42 : Int32} (hmp : mp ≤ mz) (hmz : mz ≤ 120) (c_1 : ¬ (mp = mz)) (haf_0 : (dgM ft_ mz (mz - w_41) w_42 w_41 = dgM ft_ mz (mz - mp) 0 mp)) (hnb_w_41 : mp ≤ w_41 ∧ w_41 ≤ mz) (c_85 : mz ≤ w_41) (c_86 : ¬ (w_41 ≤ mp)) (c_99 : ¬ ((w_41 - mp) ≤ 2)) : w_41 ≤ mz := by
  first
  | omega
  | (have h4 : ¬ (mp < mz ∧ isFig (ft_ mp)) := fun q => (by omega)
     have h5 : ¬ (w_41 < mz ∧ isFig (ft_ w_41)) := (by have h7 := @fig64; grind)
     rw [dgM_stop h5, dgM_stop h4] at haf_0
     simp only [nT, dgM_stop h4]
     grind)
  | (have h5 : ¬ (w_41 < mz ∧ isFig (ft_ w_41)) := (by have h7 := @fig64; grind)
     rw [dgM_stop h5] at haf_0
     simp only [nT, ← haf_0]
     have h6 := @let64
     grind)
theorem lf_X8_nextToken_12 {mz : Nat} {mp : Nat} {ft_ : Nat → Int32} {w_41 : Nat} {w_42 : Int32} (hmp : mp ≤ mz) (hmz : mz ≤ 120) (c_1 : ¬ (mp = mz)) (haf_0 : (dgM ft_ mz (mz - w_41) w_42 w_41 = dgM ft_ mz (mz - mp) 0 mp)) (hnb_w_41 : mp ≤ w_41 ∧ w_41 ≤ mz) (c_85 : mz ≤ w_41) (c_86 : ¬ (w_41 ≤ mp)) (c_99 : ¬ ((w_41 - mp) ≤ 2)) : nT ft_ mz mp = (0, w_42, (nI mp), w_41) := by
  first
  | omega
  | (have h4 : ¬ (mp < mz ∧ isFig (ft_ mp)) := fun q => (by omega)
     have h5 : ¬ (w_41 < mz ∧ isFig (ft_ w_41)) := (by have h7 := @fig64; grind)
     rw [dgM_stop h5, dgM_stop h4] at haf_0
     simp only [nT, dgM_stop h4]
     grind)
  | (have h5 : ¬ (w_41 < mz ∧ isFig (ft_ w_41)) := (by have h7 := @fig64; grind)
     rw [dgM_stop h5] at haf_0
     simp only [nT, ← haf_0]
     have h6 := @let64
     grind)
theorem lf_X8_nextToken_13 {mz : Nat} {mp : Nat} {ft_ : Nat → Int32} {w_41 : Nat} {w_42 : Int32} {v_100 : Int32} {v_105 : Int32} (hmp : mp ≤ mz) (hmz : mz ≤ 120) (c_1 : ¬ (mp = mz)) (haf_0 : (dgM ft_ mz (mz - w_41) w_42 w_41 = dgM ft_ mz (mz - mp) 0 mp)) (hnb_w_41 : mp ≤ w_41 ∧ w_41 ≤ mz) (c_85 : ¬ (mz ≤ w_41)) (e_100 : v_100 = ft_ w_41) (f_101_0_0 : ((v_100).toInt64 < 48 ∨ 57 < (v_100).toInt64)) (c_103 : w_41 ≤ mp) (e_105 : v_105 = ft_ w_41) (f_106_0_0 : ((v_105).toInt64 < 97 ∨ 122 < (v_105).toInt64)) (c_108 : v_105 = 44) : (w_41 + 1) ≤ mz := by
  first
  | omega
  | (have h4 : ¬ (mp < mz ∧ isFig (ft_ mp)) := fun q => (by omega)
     have h5 : ¬ (w_41 < mz ∧ isFig (ft_ w_41)) := (by have h7 := @fig64; grind)
     rw [dgM_stop h5, dgM_stop h4] at haf_0
     simp only [nT, dgM_stop h4]
     grind)
  | (have h5 : ¬ (w_41 < mz ∧ isFig (ft_ w_41)) := (by have h7 := @fig64; grind)
     rw [dgM_stop h5] at haf_0
     simp only [nT, ← haf_0]
     have h6 := @let64
     grind)
theorem lf_X8_nextToken_14 {mz : Nat} {mp : Nat} {ft_ : Nat → Int32} {w_41 : Nat} {w_42 : Int32} {v_100 : Int32} {v_105 : Int32} (hmp : mp ≤ mz) (hmz : mz ≤ 120) (c_1 : ¬ (mp = mz)) (haf_0 : (dgM ft_ mz (mz - w_41) w_42 w_41 = dgM ft_ mz (mz - mp) 0 mp)) (hnb_w_41 : mp ≤ w_41 ∧ w_41 ≤ mz) (c_85 : ¬ (mz ≤ w_41)) (e_100 : v_100 = ft_ w_41) (f_101_0_0 : ((v_100).toInt64 < 48 ∨ 57 < (v_100).toInt64)) (c_103 : w_41 ≤ mp) (e_105 : v_105 = ft_ w_41) (f_106_0_0 : ((v_105).toInt64 < 97 ∨ 122 < (v_105).toInt64)) (c_108 : v_105 = 44) : nT ft_ mz mp = (1, v_105, (nI mp), (w_41 + 1)) := by
  first
  | omega
  | (have h4 : ¬ (mp < mz ∧ isFig (ft_ mp)) := fun q => (by omega)
     have h5 : ¬ (w_41 < mz ∧ isFig (ft_ w_41)) := (by have h7 := @fig64; grind)
     rw [dgM_stop h5, dgM_stop h4] at haf_0
     simp only [nT, dgM_stop h4]
     grind)
  | (have h5 : ¬ (w_41 < mz ∧ isFig (ft_ w_41)) := (by have h7 := @fig64; grind)
     rw [dgM_stop h5] at haf_0
     simp only [nT, ← haf_0]
     have h6 := @let64
     grind)
theorem lf_X8_nextToken_15 {mz : Nat} {mp : Nat} {ft_ : Nat → Int32} {w_41 : Nat} {w_42 : Int32} {v_100 : Int32} {v_105 : Int32} (hmp : mp ≤ mz) (hmz : mz ≤ 120) (c_1 : ¬ (mp = mz)) (haf_0 : (dgM ft_ mz (mz - w_41) w_42 w_41 = dgM ft_ mz (mz - mp) 0 mp)) (hnb_w_41 : mp ≤ w_41 ∧ w_41 ≤ mz) (c_85 : ¬ (mz ≤ w_41)) (e_100 : v_100 = ft_ w_41) (f_101_0_0 : ((v_100).toInt64 < 48 ∨ 57 < (v_100).toInt64)) (c_103 : w_41 ≤ mp) (e_105 : v_105 = ft_ w_41) (f_106_0_0 : ((v_105).toInt64 < 97 ∨ 122 < (v_105).toInt64)) (c_108 : ¬ (v_105 = 44)) (c_110 : ¬ (v_105 = 59)) : (w_41 + 1) ≤ mz := by
  first
  | omega
  | (have h4 : ¬ (mp < mz ∧ isFig (ft_ mp)) := fun q => (by omega)
     have h5 : ¬ (w_41 < mz ∧ isFig (ft_ w_41)) := (by have h7 := @fig64; grind)
     rw [dgM_stop h5, dgM_stop h4] at haf_0
     simp only [nT, dgM_stop h4]
     grind)
  | (have h5 : ¬ (w_41 < mz ∧ isFig (ft_ w_41)) := (by have h7 := @fig64; grind)
     rw [dgM_stop h5] at haf_0
     simp only [nT, ← haf_0]
     have h6 := @let64
     grind)
theorem lf_X8_nextToken_16 {mz : Nat} {mp : Nat} {ft_ : Nat → Int32} {w_41 : Nat} {w_42 : Int32} {v_100 : Int32} {v_105 : Int32} (hmp : mp ≤ mz) (hmz : mz ≤ 120) (c_1 : ¬ (mp = mz)) (haf_0 : (dgM ft_ mz (mz - w_41) w_42 w_41 = dgM ft_ mz (mz - mp) 0 mp)) (hnb_w_41 : mp ≤ w_41 ∧ w_41 ≤ mz) (c_85 : ¬ (mz ≤ w_41)) (e_100 : v_100 = ft_ w_41) (f_101_0_0 : ((v_100).toInt64 < 48 ∨ 57 < (v_100).toInt64)) (c_103 : w_41 ≤ mp) (e_105 : v_105 = ft_ w_41) (f_106_0_0 : ((v_105).toInt64 < 97 ∨ 122 < (v_105).toInt64)) (c_108 : ¬ (v_105 = 44)) (c_110 : ¬ (v_105 = 59)) : nT ft_ mz mp = (0, v_105, (nI mp), (w_41 + 1)) := by
  first
  | omega
  | (have h4 : ¬ (mp < mz ∧ isFig (ft_ mp)) := fun q => (by omega)
     have h5 : ¬ (w_41 < mz ∧ isFig (ft_ w_41)) := (by have h7 := @fig64; grind)
     rw [dgM_stop h5, dgM_stop h4] at haf_0
     simp only [nT, dgM_stop h4]
     grind)
  | (have h5 : ¬ (w_41 < mz ∧ isFig (ft_ w_41)) := (by have h7 := @fig64; grind)
     rw [dgM_stop h5] at haf_0
     simp only [nT, ← haf_0]
     have h6 := @let64
     grind)
theorem lf_X8_nextToken_17 {mz : Nat} {mp : Nat} {ft_ : Nat → Int32} {w_41 : Nat} {w_42 : Int32} {v_100 : Int32} {v_105 : Int32} (hmp : mp ≤ mz) (hmz : mz ≤ 120) (c_1 : ¬ (mp = mz)) (haf_0 : (dgM ft_ mz (mz - w_41) w_42 w_41 = dgM ft_ mz (mz - mp) 0 mp)) (hnb_w_41 : mp ≤ w_41 ∧ w_41 ≤ mz) (c_85 : ¬ (mz ≤ w_41)) (e_100 : v_100 = ft_ w_41) (f_101_0_0 : ((v_100).toInt64 < 48 ∨ 57 < (v_100).toInt64)) (c_103 : w_41 ≤ mp) (e_105 : v_105 = ft_ w_41) (f_106_0_0 : ((v_105).toInt64 < 97 ∨ 122 < (v_105).toInt64)) (c_108 : ¬ (v_105 = 44)) (c_110 : v_105 = 59) : (w_41 + 1) ≤ mz := by
  first
  | omega
  | (have h4 : ¬ (mp < mz ∧ isFig (ft_ mp)) := fun q => (by omega)
     have h5 : ¬ (w_41 < mz ∧ isFig (ft_ w_41)) := (by have h7 := @fig64; grind)
     rw [dgM_stop h5, dgM_stop h4] at haf_0
     simp only [nT, dgM_stop h4]
     grind)
  | (have h5 : ¬ (w_41 < mz ∧ isFig (ft_ w_41)) := (by have h7 := @fig64; grind)
     rw [dgM_stop h5] at haf_0
     simp only [nT, ← haf_0]
     have h6 := @let64
     grind)
theorem lf_X8_nextToken_18 {mz : Nat} {mp : Nat} {ft_ : Nat → Int32} {w_41 : Nat} {w_42 : Int32} {v_100 : Int32} {v_105 : Int32} (hmp : mp ≤ mz) (hmz : mz ≤ 120) (c_1 : ¬ (mp = mz)) (haf_0 : (dgM ft_ mz (mz - w_41) w_42 w_41 = dgM ft_ mz (mz - mp) 0 mp)) (hnb_w_41 : mp ≤ w_41 ∧ w_41 ≤ mz) (c_85 : ¬ (mz ≤ w_41)) (e_100 : v_100 = ft_ w_41) (f_101_0_0 : ((v_100).toInt64 < 48 ∨ 57 < (v_100).toInt64)) (c_103 : w_41 ≤ mp) (e_105 : v_105 = ft_ w_41) (f_106_0_0 : ((v_105).toInt64 < 97 ∨ 122 < (v_105).toInt64)) (c_108 : ¬ (v_105 = 44)) (c_110 : v_105 = 59) : nT ft_ mz mp = (1, v_105, (nI mp), (w_41 + 1)) := by
  first
  | omega
  | (have h4 : ¬ (mp < mz ∧ isFig (ft_ mp)) := fun q => (by omega)
     have h5 : ¬ (w_41 < mz ∧ isFig (ft_ w_41)) := (by have h7 := @fig64; grind)
     rw [dgM_stop h5, dgM_stop h4] at haf_0
     simp only [nT, dgM_stop h4]
     grind)
  | (have h5 : ¬ (w_41 < mz ∧ isFig (ft_ w_41)) := (by have h7 := @fig64; grind)
     rw [dgM_stop h5] at haf_0
     simp only [nT, ← haf_0]
     have h6 := @let64
     grind)
theorem lf_X8_nextToken_19 {mz : Nat} {mp : Nat} {ft_ : Nat → Int32} {w_41 : Nat} {w_42 : Int32} {v_100 : Int32} {v_105 : Int32} (hmp : mp ≤ mz) (hmz : mz ≤ 120) (c_1 : ¬ (mp = mz)) (haf_0 : (dgM ft_ mz (mz - w_41) w_42 w_41 = dgM ft_ mz (mz - mp) 0 mp)) (hnb_w_41 : mp ≤ w_41 ∧ w_41 ≤ mz) (c_85 : ¬ (mz ≤ w_41)) (e_100 : v_100 = ft_ w_41) (f_101_0_0 : ((v_100).toInt64 < 48 ∨ 57 < (v_100).toInt64)) (c_103 : w_41 ≤ mp) (e_105 : v_105 = ft_ w_41) (f_106_1_0 : (¬ ((v_105).toInt64 < 97 ∨ 122 < (v_105).toInt64))) : (w_41 + 1) ≤ mz := by
  first
  | omega
  | (have h4 : ¬ (mp < mz ∧ isFig (ft_ mp)) := fun q => (by omega)
     have h5 : ¬ (w_41 < mz ∧ isFig (ft_ w_41)) := (by have h7 := @fig64; grind)
     rw [dgM_stop h5, dgM_stop h4] at haf_0
     simp only [nT, dgM_stop h4]
     grind)
  | (have h5 : ¬ (w_41 < mz ∧ isFig (ft_ w_41)) := (by have h7 := @fig64; grind)
     rw [dgM_stop h5] at haf_0
     simp only [nT, ← haf_0]
     have h6 := @let64
     grind)
theorem lf_X8_nextToken_20 {mz : Nat} {mp : Nat} {ft_ : Nat → Int32} {w_41 : Nat} {w_42 : Int32} {v_100 : Int32} {v_105 : Int32} (hmp : mp ≤ mz) (hmz : mz ≤ 120) (c_1 : ¬ (mp = mz)) (haf_0 : (dgM ft_ mz (mz - w_41) w_42 w_41 = dgM ft_ mz (mz - mp) 0 mp)) (hnb_w_41 : mp ≤ w_41 ∧ w_41 ≤ mz) (c_85 : ¬ (mz ≤ w_41)) (e_100 : v_100 = ft_ w_41) (f_101_0_0 : ((v_100).toInt64 < 48 ∨ 57 < (v_100).toInt64)) (c_103 : w_41 ≤ mp) (e_105 : v_105 = ft_ w_41) (f_106_1_0 : (¬ ((v_105).toInt64 < 97 ∨ 122 < (v_105).toInt64))) : nT ft_ mz mp = (1, v_105, (nI mp), (w_41 + 1)) := by
  first
  | omega
  | (have h4 : ¬ (mp < mz ∧ isFig (ft_ mp)) := fun q => (by omega)
     have h5 : ¬ (w_41 < mz ∧ isFig (ft_ w_41)) := (by have h7 := @fig64; grind)
     rw [dgM_stop h5, dgM_stop h4] at haf_0
     simp only [nT, dgM_stop h4]
     grind)
  | (have h5 : ¬ (w_41 < mz ∧ isFig (ft_ w_41)) := (by have h7 := @fig64; grind)
     rw [dgM_stop h5] at haf_0
     simp only [nT, ← haf_0]
     have h6 := @let64
     grind)
theorem lf_X8_nextToken_21 {mz : Nat} {mp : Nat} {ft_ : Nat → Int32} {w_41 : Nat} {w_42 : Int32} {v_100 : Int32} (hmp : mp ≤ mz) (hmz : mz ≤ 120) (c_1 : ¬ (mp = mz)) (haf_0 : (dgM ft_ mz (mz - w_41) w_42 w_41 = dgM ft_ mz (mz - mp) 0 mp)) (hnb_w_41 : mp ≤ w_41 ∧ w_41 ≤ mz) (c_85 : ¬ (mz ≤ w_41)) (e_100 : v_100 = ft_ w_41) (f_101_0_0 : ((v_100).toInt64 < 48 ∨ 57 < (v_100).toInt64)) (c_103 : ¬ (w_41 ≤ mp)) (c_116 : (w_41 - mp) ≤ 2) : w_41 ≤ mz := by
  first
  | omega
  | (have h4 : ¬ (mp < mz ∧ isFig (ft_ mp)) := fun q => (by omega)
     have h5 : ¬ (w_41 < mz ∧ isFig (ft_ w_41)) := (by have h7 := @fig64; grind)
     rw [dgM_stop h5, dgM_stop h4] at haf_0
     simp only [nT, dgM_stop h4]
     grind)
  | (have h5 : ¬ (w_41 < mz ∧ isFig (ft_ w_41)) := (by have h7 := @fig64; grind)
     rw [dgM_stop h5] at haf_0
     simp only [nT, ← haf_0]
     have h6 := @let64
     grind)
theorem lf_X8_nextToken_22 {mz : Nat} {mp : Nat} {ft_ : Nat → Int32} {w_41 : Nat} {w_42 : Int32} {v_100 : Int32} (hmp : mp ≤ mz) (hmz : mz ≤ 120) (c_1 : ¬ (mp = mz)) (haf_0 : (dgM ft_ mz (mz - w_41) w_42 w_41 = dgM ft_ mz (mz - mp) 0 mp)) (hnb_w_41 : mp ≤ w_41 ∧ w_41 ≤ mz) (c_85 : ¬ (mz ≤ w_41)) (e_100 : v_100 = ft_ w_41) (f_101_0_0 : ((v_100).toInt64 < 48 ∨ 57 < (v_100).toInt64)) (c_103 : ¬ (w_41 ≤ mp)) (c_116 : (w_41 - mp) ≤ 2) : nT ft_ mz mp = (2, w_42, (nI mp), w_41) := by
  first
  | omega
  | (have h4 : ¬ (mp < mz ∧ isFig (ft_ mp)) := fun q => (by omega)
     have h5 : ¬ (w_41 < mz ∧ isFig (ft_ w_41)) := (by have h7 := @fig64; grind)
     rw [dgM_stop h5, dgM_stop h4] at haf_0
     simp only [nT, dgM_stop h4]
     grind)
  | (have h5 : ¬ (w_41 < mz ∧ isFig (ft_ w_41)) := (by have h7 := @fig64; grind)
     rw [dgM_stop h5] at haf_0
     simp only [nT, ← haf_0]
     have h6 := @let64
     grind)
theorem lf_X8_nextToken_23 {mz : Nat} {mp : Nat} {ft_ : Nat → Int32} {w_41 : Nat} {w_42 : Int32} {v_100 : Int32} (hmp : mp ≤ mz) (hmz : mz ≤ 120) (c_1 : ¬ (mp = mz)) (haf_0 : (dgM ft_ mz (mz - w_41) w_42 w_41 = dgM ft_ mz (mz - mp) 0 mp)) (hnb_w_41 : mp ≤ w_41 ∧ w_41 ≤ mz) (c_85 : ¬ (mz ≤ w_41)) (e_100 : v_100 = ft_ w_41) (f_101_0_0 : ((v_100).toInt64 < 48 ∨ 57 < (v_100).toInt64)) (c_103 : ¬ (w_41 ≤ mp)) (c_116 : ¬ ((w_41 - mp) ≤ 2)) : w_41 ≤ mz := by
  first
  | omega
  | (have h4 : ¬ (mp < mz ∧ isFig (ft_ mp)) := fun q => (by omega)
     have h5 : ¬ (w_41 < mz ∧ isFig (ft_ w_41)) := (by have h7 := @fig64; grind)
     rw [dgM_stop h5, dgM_stop h4] at haf_0
     simp only [nT, dgM_stop h4]
     grind)
  | (have h5 : ¬ (w_41 < mz ∧ isFig (ft_ w_41)) := (by have h7 := @fig64; grind)
     rw [dgM_stop h5] at haf_0
     simp only [nT, ← haf_0]
     have h6 := @let64
     grind)
theorem lf_X8_nextToken_24 {mz : Nat} {mp : Nat} {ft_ : Nat → Int32} {w_41 : Nat} {w_42 : Int32} {v_100 : Int32} (hmp : mp ≤ mz) (hmz : mz ≤ 120) (c_1 : ¬ (mp = mz)) (haf_0 : (dgM ft_ mz (mz - w_41) w_42 w_41 = dgM ft_ mz (mz - mp) 0 mp)) (hnb_w_41 : mp ≤ w_41 ∧ w_41 ≤ mz) (c_85 : ¬ (mz ≤ w_41)) (e_100 : v_100 = ft_ w_41) (f_101_0_0 : ((v_100).toInt64 < 48 ∨ 57 < (v_100).toInt64)) (c_103 : ¬ (w_41 ≤ mp)) (c_116 : ¬ ((w_41 - mp) ≤ 2)) : nT ft_ mz mp = (0, w_42, (nI mp), w_41) := by
  first
  | omega
  | (have h4 : ¬ (mp < mz ∧ isFig (ft_ mp)) := fun q => (by omega)
     have h5 : ¬ (w_41 < mz ∧ isFig (ft_ w_41)) := (by have h7 := @fig64; grind)
     rw [dgM_stop h5, dgM_stop h4] at haf_0
     simp only [nT, dgM_stop h4]
     grind)
  | (have h5 : ¬ (w_41 < mz ∧ isFig (ft_ w_41)) := (by have h7 := @fig64; grind)
     rw [dgM_stop h5] at haf_0
     simp only [nT, ← haf_0]
     have h6 := @let64
     grind)
theorem lf_X8_nextToken_25 {mz : Nat} {mp : Nat} {ft_ : Nat → Int32} {w_41 : Nat} {w_42 : Int32} {v_100 : Int32} {v_119 : Int32} {v_120 : Int32} {v_121 : Int32} {v_122 : Int32} (hmp : mp ≤ mz) (hmz : mz ≤ 120) (c_1 : ¬ (mp = mz)) (haf_0 : (dgM ft_ mz (mz - w_41) w_42 w_41 = dgM ft_ mz (mz - mp) 0 mp)) (hnb_w_41 : mp ≤ w_41 ∧ w_41 ≤ mz) (c_85 : ¬ (mz ≤ w_41)) (e_100 : v_100 = ft_ w_41) (f_101_1_0 : (¬ ((v_100).toInt64 < 48 ∨ 57 < (v_100).toInt64))) (c_118 : w_42 ≤ 99) (e_119 : v_119 = (10 * w_42)) (e_120 : v_120 = ft_ w_41) (e_121 : v_121 = (v_119 + v_120)) (e_122 : v_122 = (v_121 - 48)) : dgM ft_ mz (mz - (w_41 + 1)) v_122 (w_41 + 1) = dgM ft_ mz (mz - mp) 0 mp := by
  have h8 : w_41 < mz ∧ isFig (ft_ w_41) := ⟨by omega, by have h7 := @fig64; grind⟩
  rw [dgM_go (by omega) h8] at haf_0
  rw [show mz - (w_41 + 1) = mz - w_41 - 1 by omega, ← haf_0]
  exact congrArg (fun t => dgM ft_ mz (mz - w_41 - 1) t (w_41 + 1)) (by grind)
theorem lf_X8_nextToken_26 {mz : Nat} {mp : Nat} {ft_ : Nat → Int32} {w_41 : Nat} {w_42 : Int32} {v_100 : Int32} (hmp : mp ≤ mz) (hmz : mz ≤ 120) (c_1 : ¬ (mp = mz)) (haf_0 : (dgM ft_ mz (mz - w_41) w_42 w_41 = dgM ft_ mz (mz - mp) 0 mp)) (hnb_w_41 : mp ≤ w_41 ∧ w_41 ≤ mz) (c_85 : ¬ (mz ≤ w_41)) (e_100 : v_100 = ft_ w_41) (f_101_1_0 : (¬ ((v_100).toInt64 < 48 ∨ 57 < (v_100).toInt64))) (c_118 : ¬ (w_42 ≤ 99)) : dgM ft_ mz (mz - (w_41 + 1)) w_42 (w_41 + 1) = dgM ft_ mz (mz - mp) 0 mp := by
  have h8 : w_41 < mz ∧ isFig (ft_ w_41) := ⟨by omega, by have h7 := @fig64; grind⟩
  rw [dgM_go (by omega) h8] at haf_0
  rw [show mz - (w_41 + 1) = mz - w_41 - 1 by omega, ← haf_0]
  exact congrArg (fun t => dgM ft_ mz (mz - w_41 - 1) t (w_41 + 1)) (by grind)
theorem lf_X8_nextToken_27 {mz : Nat} {mp : Nat} {ft_ : Nat → Int32} {w_144 : Nat} {w_145 : Int32} (hmp : mp ≤ mz) (hmz : mz ≤ 120) (c_1 : mp = mz) (haf_0 : (dgM ft_ mz (mz - w_144) w_145 w_144 = dgM ft_ mz (mz - mp) 0 mp)) (hnb_w_144 : mp ≤ w_144 ∧ w_144 ≤ mz) (c_168 : mz ≤ w_144) (c_169 : w_144 ≤ mp) : w_144 ≤ mz := by
  first
  | omega
  | (have h4 : ¬ (mp < mz ∧ isFig (ft_ mp)) := fun q => (by omega)
     have h5 : ¬ (w_144 < mz ∧ isFig (ft_ w_144)) := (by have h7 := @fig64; grind)
     rw [dgM_stop h5, dgM_stop h4] at haf_0
     simp only [nT, dgM_stop h4]
     grind)
  | (have h5 : ¬ (w_144 < mz ∧ isFig (ft_ w_144)) := (by have h7 := @fig64; grind)
     rw [dgM_stop h5] at haf_0
     simp only [nT, ← haf_0]
     have h6 := @let64
     grind)
theorem lf_X8_nextToken_28 {mz : Nat} {mp : Nat} {ft_ : Nat → Int32} {w_144 : Nat} {w_145 : Int32} (hmp : mp ≤ mz) (hmz : mz ≤ 120) (c_1 : mp = mz) (haf_0 : (dgM ft_ mz (mz - w_144) w_145 w_144 = dgM ft_ mz (mz - mp) 0 mp)) (hnb_w_144 : mp ≤ w_144 ∧ w_144 ≤ mz) (c_168 : mz ≤ w_144) (c_169 : w_144 ≤ mp) : nT ft_ mz mp = (3, w_145, (nI mp), w_144) := by
  first
  | omega
  | (have h4 : ¬ (mp < mz ∧ isFig (ft_ mp)) := fun q => (by omega)
     have h5 : ¬ (w_144 < mz ∧ isFig (ft_ w_144)) := (by have h7 := @fig64; grind)
     rw [dgM_stop h5, dgM_stop h4] at haf_0
     simp only [nT, dgM_stop h4]
     grind)
  | (have h5 : ¬ (w_144 < mz ∧ isFig (ft_ w_144)) := (by have h7 := @fig64; grind)
     rw [dgM_stop h5] at haf_0
     simp only [nT, ← haf_0]
     have h6 := @let64
     grind)
theorem lf_X8_nextToken_29 {mz : Nat} {mp : Nat} {ft_ : Nat → Int32} {w_144 : Nat} {w_145 : Int32} (hmp : mp ≤ mz) (hmz : mz ≤ 120) (c_1 : mp = mz) (haf_0 : (dgM ft_ mz (mz - w_144) w_145 w_144 = dgM ft_ mz (mz - mp) 0 mp)) (hnb_w_144 : mp ≤ w_144 ∧ w_144 ≤ mz) (c_168 : mz ≤ w_144) (c_169 : ¬ (w_144 ≤ mp)) (c_172 : (w_144 - mp) ≤ 2) : w_144 ≤ mz := by
  first
  | omega
  | (have h4 : ¬ (mp < mz ∧ isFig (ft_ mp)) := fun q => (by omega)
     have h5 : ¬ (w_144 < mz ∧ isFig (ft_ w_144)) := (by have h7 := @fig64; grind)
     rw [dgM_stop h5, dgM_stop h4] at haf_0
     simp only [nT, dgM_stop h4]
     grind)
  | (have h5 : ¬ (w_144 < mz ∧ isFig (ft_ w_144)) := (by have h7 := @fig64; grind)
     rw [dgM_stop h5] at haf_0
     simp only [nT, ← haf_0]
     have h6 := @let64
     grind)
theorem lf_X8_nextToken_30 {mz : Nat} {mp : Nat} {ft_ : Nat → Int32} {w_144 : Nat} {w_145 : Int32} (hmp : mp ≤ mz) (hmz : mz ≤ 120) (c_1 : mp = mz) (haf_0 : (dgM ft_ mz (mz - w_144) w_145 w_144 = dgM ft_ mz (mz - mp) 0 mp)) (hnb_w_144 : mp ≤ w_144 ∧ w_144 ≤ mz) (c_168 : mz ≤ w_144) (c_169 : ¬ (w_144 ≤ mp)) (c_172 : (w_144 - mp) ≤ 2) : nT ft_ mz mp = (2, w_145, (nI mp), w_144) := by
  first
  | omega
  | (have h4 : ¬ (mp < mz ∧ isFig (ft_ mp)) := fun q => (by omega)
     have h5 : ¬ (w_144 < mz ∧ isFig (ft_ w_144)) := (by have h7 := @fig64; grind)
     rw [dgM_stop h5, dgM_stop h4] at haf_0
     simp only [nT, dgM_stop h4]
     grind)
  | (have h5 : ¬ (w_144 < mz ∧ isFig (ft_ w_144)) := (by have h7 := @fig64; grind)
     rw [dgM_stop h5] at haf_0
     simp only [nT, ← haf_0]
     have h6 := @let64
     grind)
theorem lf_X8_nextToken_31 {mz : Nat} {mp : Nat} {ft_ : Nat → Int32} {w_144 : Nat} {w_145 : Int32} (hmp : mp ≤ mz) (hmz : mz ≤ 120) (c_1 : mp = mz) (haf_0 : (dgM ft_ mz (mz - w_144) w_145 w_144 = dgM ft_ mz (mz - mp) 0 mp)) (hnb_w_144 : mp ≤ w_144 ∧ w_144 ≤ mz) (c_168 : mz ≤ w_144) (c_169 : ¬ (w_144 ≤ mp)) (c_172 : ¬ ((w_144 - mp) ≤ 2)) : w_144 ≤ mz := by
  first
  | omega
  | (have h4 : ¬ (mp < mz ∧ isFig (ft_ mp)) := fun q => (by omega)
     have h5 : ¬ (w_144 < mz ∧ isFig (ft_ w_144)) := (by have h7 := @fig64; grind)
     rw [dgM_stop h5, dgM_stop h4] at haf_0
     simp only [nT, dgM_stop h4]
     grind)
  | (have h5 : ¬ (w_144 < mz ∧ isFig (ft_ w_144)) := (by have h7 := @fig64; grind)
     rw [dgM_stop h5] at haf_0
     simp only [nT, ← haf_0]
     have h6 := @let64
     grind)
theorem lf_X8_nextToken_32 {mz : Nat} {mp : Nat} {ft_ : Nat → Int32} {w_144 : Nat} {w_145 : Int32} (hmp : mp ≤ mz) (hmz : mz ≤ 120) (c_1 : mp = mz) (haf_0 : (dgM ft_ mz (mz - w_144) w_145 w_144 = dgM ft_ mz (mz - mp) 0 mp)) (hnb_w_144 : mp ≤ w_144 ∧ w_144 ≤ mz) (c_168 : mz ≤ w_144) (c_169 : ¬ (w_144 ≤ mp)) (c_172 : ¬ ((w_144 - mp) ≤ 2)) : nT ft_ mz mp = (0, w_145, (nI mp), w_144) := by
  first
  | omega
  | (have h4 : ¬ (mp < mz ∧ isFig (ft_ mp)) := fun q => (by omega)
     have h5 : ¬ (w_144 < mz ∧ isFig (ft_ w_144)) := (by have h7 := @fig64; grind)
     rw [dgM_stop h5, dgM_stop h4] at haf_0
     simp only [nT, dgM_stop h4]
     grind)
  | (have h5 : ¬ (w_144 < mz ∧ isFig (ft_ w_144)) := (by have h7 := @fig64; grind)
     rw [dgM_stop h5] at haf_0
     simp only [nT, ← haf_0]
     have h6 := @let64
     grind)
theorem lf_X8_nextToken_33 {mz : Nat} {mp : Nat} {ft_ : Nat → Int32} {w_144 : Nat} {w_145 : Int32} {v_173 : Int32} (hmp : mp ≤ mz) (hmz : mz ≤ 120) (c_1 : mp = mz) (haf_0 : (dgM ft_ mz (mz - w_144) w_145 w_144 = dgM ft_ mz (mz - mp) 0 mp)) (hnb_w_144 : mp ≤ w_144 ∧ w_144 ≤ mz) (c_168 : ¬ (mz ≤ w_144)) (e_173 : v_173 = ft_ w_144) (f_174_0_0 : ((v_173).toInt64 < 48 ∨ 57 < (v_173).toInt64)) (c_176 : w_144 ≤ mp) : w_144 ≤ mz := by
  first
  | omega
  | (have h4 : ¬ (mp < mz ∧ isFig (ft_ mp)) := fun q => (by omega)
     have h5 : ¬ (w_144 < mz ∧ isFig (ft_ w_144)) := (by have h7 := @fig64; grind)
     rw [dgM_stop h5, dgM_stop h4] at haf_0
     simp only [nT, dgM_stop h4]
     grind)
  | (have h5 : ¬ (w_144 < mz ∧ isFig (ft_ w_144)) := (by have h7 := @fig64; grind)
     rw [dgM_stop h5] at haf_0
     simp only [nT, ← haf_0]
     have h6 := @let64
     grind)
theorem lf_X8_nextToken_34 {mz : Nat} {mp : Nat} {ft_ : Nat → Int32} {w_144 : Nat} {w_145 : Int32} {v_173 : Int32} (hmp : mp ≤ mz) (hmz : mz ≤ 120) (c_1 : mp = mz) (haf_0 : (dgM ft_ mz (mz - w_144) w_145 w_144 = dgM ft_ mz (mz - mp) 0 mp)) (hnb_w_144 : mp ≤ w_144 ∧ w_144 ≤ mz) (c_168 : ¬ (mz ≤ w_144)) (e_173 : v_173 = ft_ w_144) (f_174_0_0 : ((v_173).toInt64 < 48 ∨ 57 < (v_173).toInt64)) (c_176 : w_144 ≤ mp) : nT ft_ mz mp = (3, w_145, (nI mp), w_144) := by
  first
  | omega
  | (have h4 : ¬ (mp < mz ∧ isFig (ft_ mp)) := fun q => (by omega)
     have h5 : ¬ (w_144 < mz ∧ isFig (ft_ w_144)) := (by have h7 := @fig64; grind)
     rw [dgM_stop h5, dgM_stop h4] at haf_0
     simp only [nT, dgM_stop h4]
     grind)
  | (have h5 : ¬ (w_144 < mz ∧ isFig (ft_ w_144)) := (by have h7 := @fig64; grind)
     rw [dgM_stop h5] at haf_0
     simp only [nT, ← haf_0]
     have h6 := @let64
     grind)
theorem lf_X8_nextToken_35 {mz : Nat} {mp : Nat} {ft_ : Nat → Int32} {w_144 : Nat} {w_145 : Int32} {v_173 : Int32} (hmp : mp ≤ mz) (hmz : mz ≤ 120) (c_1 : mp = mz) (haf_0 : (dgM ft_ mz (mz - w_144) w_145 w_144 = dgM ft_ mz (mz - mp) 0 mp)) (hnb_w_144 : mp ≤ w_144 ∧ w_144 ≤ mz) (c_168 : ¬ (mz ≤ w_144)) (e_173 : v_173 = ft_ w_144) (f_174_0_0 : ((v_173).toInt64 < 48 ∨ 57 < (v_173).toInt64)) (c_176 : ¬ (w_144 ≤ mp)) (c_179 : (w_144 - mp) ≤ 2) : w_144 ≤ mz := by
  first
  | omega
  | (have h4 : ¬ (mp < mz ∧ isFig (ft_ mp)) := fun q => (by omega)
     have h5 : ¬ (w_144 < mz ∧ isFig (ft_ w_144)) := (by have h7 := @fig64; grind)
     rw [dgM_stop h5, dgM_stop h4] at haf_0
     simp only [nT, dgM_stop h4]
     grind)
  | (have h5 : ¬ (w_144 < mz ∧ isFig (ft_ w_144)) := (by have h7 := @fig64; grind)
     rw [dgM_stop h5] at haf_0
     simp only [nT, ← haf_0]
     have h6 := @let64
     grind)
theorem lf_X8_nextToken_36 {mz : Nat} {mp : Nat} {ft_ : Nat → Int32} {w_144 : Nat} {w_145 : Int32} {v_173 : Int32} (hmp : mp ≤ mz) (hmz : mz ≤ 120) (c_1 : mp = mz) (haf_0 : (dgM ft_ mz (mz - w_144) w_145 w_144 = dgM ft_ mz (mz - mp) 0 mp)) (hnb_w_144 : mp ≤ w_144 ∧ w_144 ≤ mz) (c_168 : ¬ (mz ≤ w_144)) (e_173 : v_173 = ft_ w_144) (f_174_0_0 : ((v_173).toInt64 < 48 ∨ 57 < (v_173).toInt64)) (c_176 : ¬ (w_144 ≤ mp)) (c_179 : (w_144 - mp) ≤ 2) : nT ft_ mz mp = (2, w_145, (nI mp), w_144) := by
  first
  | omega
  | (have h4 : ¬ (mp < mz ∧ isFig (ft_ mp)) := fun q => (by omega)
     have h5 : ¬ (w_144 < mz ∧ isFig (ft_ w_144)) := (by have h7 := @fig64; grind)
     rw [dgM_stop h5, dgM_stop h4] at haf_0
     simp only [nT, dgM_stop h4]
     grind)
  | (have h5 : ¬ (w_144 < mz ∧ isFig (ft_ w_144)) := (by have h7 := @fig64; grind)
     rw [dgM_stop h5] at haf_0
     simp only [nT, ← haf_0]
     have h6 := @let64
     grind)
theorem lf_X8_nextToken_37 {mz : Nat} {mp : Nat} {ft_ : Nat → Int32} {w_144 : Nat} {w_145 : Int32} {v_173 : Int32} (hmp : mp ≤ mz) (hmz : mz ≤ 120) (c_1 : mp = mz) (haf_0 : (dgM ft_ mz (mz - w_144) w_145 w_144 = dgM ft_ mz (mz - mp) 0 mp)) (hnb_w_144 : mp ≤ w_144 ∧ w_144 ≤ mz) (c_168 : ¬ (mz ≤ w_144)) (e_173 : v_173 = ft_ w_144) (f_174_0_0 : ((v_173).toInt64 < 48 ∨ 57 < (v_173).toInt64)) (c_176 : ¬ (w_144 ≤ mp)) (c_179 : ¬ ((w_144 - mp) ≤ 2)) : w_144 ≤ mz := by
  first
  | omega
  | (have h4 : ¬ (mp < mz ∧ isFig (ft_ mp)) := fun q => (by omega)
     have h5 : ¬ (w_144 < mz ∧ isFig (ft_ w_144)) := (by have h7 := @fig64; grind)
     rw [dgM_stop h5, dgM_stop h4] at haf_0
     simp only [nT, dgM_stop h4]
     grind)
  | (have h5 : ¬ (w_144 < mz ∧ isFig (ft_ w_144)) := (by have h7 := @fig64; grind)
     rw [dgM_stop h5] at haf_0
     simp only [nT, ← haf_0]
     have h6 := @let64
     grind)
theorem lf_X8_nextToken_38 {mz : Nat} {mp : Nat} {ft_ : Nat → Int32} {w_144 : Nat} {w_145 : Int32} {v_173 : Int32} (hmp : mp ≤ mz) (hmz : mz ≤ 120) (c_1 : mp = mz) (haf_0 : (dgM ft_ mz (mz - w_144) w_145 w_144 = dgM ft_ mz (mz - mp) 0 mp)) (hnb_w_144 : mp ≤ w_144 ∧ w_144 ≤ mz) (c_168 : ¬ (mz ≤ w_144)) (e_173 : v_173 = ft_ w_144) (f_174_0_0 : ((v_173).toInt64 < 48 ∨ 57 < (v_173).toInt64)) (c_176 : ¬ (w_144 ≤ mp)) (c_179 : ¬ ((w_144 - mp) ≤ 2)) : nT ft_ mz mp = (0, w_145, (nI mp), w_144) := by
  first
  | omega
  | (have h4 : ¬ (mp < mz ∧ isFig (ft_ mp)) := fun q => (by omega)
     have h5 : ¬ (w_144 < mz ∧ isFig (ft_ w_144)) := (by have h7 := @fig64; grind)
     rw [dgM_stop h5, dgM_stop h4] at haf_0
     simp only [nT, dgM_stop h4]
     grind)
  | (have h5 : ¬ (w_144 < mz ∧ isFig (ft_ w_144)) := (by have h7 := @fig64; grind)
     rw [dgM_stop h5] at haf_0
     simp only [nT, ← haf_0]
     have h6 := @let64
     grind)
theorem lf_X8_nextToken_39 {mz : Nat} {mp : Nat} {ft_ : Nat → Int32} {w_144 : Nat} {w_145 : Int32} {v_173 : Int32} {v_182 : Int32} {v_183 : Int32} {v_184 : Int32} {v_185 : Int32} (hmp : mp ≤ mz) (hmz : mz ≤ 120) (c_1 : mp = mz) (haf_0 : (dgM ft_ mz (mz - w_144) w_145 w_144 = dgM ft_ mz (mz - mp) 0 mp)) (hnb_w_144 : mp ≤ w_144 ∧ w_144 ≤ mz) (c_168 : ¬ (mz ≤ w_144)) (e_173 : v_173 = ft_ w_144) (f_174_1_0 : (¬ ((v_173).toInt64 < 48 ∨ 57 < (v_173).toInt64))) (c_181 : w_145 ≤ 99) (e_182 : v_182 = (10 * w_145)) (e_183 : v_183 = ft_ w_144) (e_184 : v_184 = (v_182 + v_183)) (e_185 : v_185 = (v_184 - 48)) : dgM ft_ mz (mz - (w_144 + 1)) v_185 (w_144 + 1) = dgM ft_ mz (mz - mp) 0 mp := by
  have h8 : w_144 < mz ∧ isFig (ft_ w_144) := ⟨by omega, by have h7 := @fig64; grind⟩
  rw [dgM_go (by omega) h8] at haf_0
  rw [show mz - (w_144 + 1) = mz - w_144 - 1 by omega, ← haf_0]
  exact congrArg (fun t => dgM ft_ mz (mz - w_144 - 1) t (w_144 + 1)) (by grind)
theorem lf_X8_nextToken_40 {mz : Nat} {mp : Nat} {ft_ : Nat → Int32} {w_144 : Nat} {w_145 : Int32} {v_173 : Int32} (hmp : mp ≤ mz) (hmz : mz ≤ 120) (c_1 : mp = mz) (haf_0 : (dgM ft_ mz (mz - w_144) w_145 w_144 = dgM ft_ mz (mz - mp) 0 mp)) (hnb_w_144 : mp ≤ w_144 ∧ w_144 ≤ mz) (c_168 : ¬ (mz ≤ w_144)) (e_173 : v_173 = ft_ w_144) (f_174_1_0 : (¬ ((v_173).toInt64 < 48 ∨ 57 < (v_173).toInt64))) (c_181 : ¬ (w_145 ≤ 99)) : dgM ft_ mz (mz - (w_144 + 1)) w_145 (w_144 + 1) = dgM ft_ mz (mz - mp) 0 mp := by
  have h8 : w_144 < mz ∧ isFig (ft_ w_144) := ⟨by omega, by have h7 := @fig64; grind⟩
  rw [dgM_go (by omega) h8] at haf_0
  rw [show mz - (w_144 + 1) = mz - w_144 - 1 by omega, ← haf_0]
  exact congrArg (fun t => dgM ft_ mz (mz - w_144 - 1) t (w_144 + 1)) (by grind)
set_option maxHeartbeats 4000000 in
set_option maxRecDepth 100000 in
theorem r_X8_nextToken (l : Launch) (dC : Nat → ClassId) (dI : Nat → Nat → Nat) (cI cZ cL cJ : ClassId) (sz : Nat) (mo : Nat) (m_la : Nat) (m_sz : Nat) (m_it : Nat) (m_st : Nat) (m_mv : Nat) (m_tp : Nat) (m_rd : Nat) (m_ac : Nat) (m_as : Nat) (m_wo : Nat) (m_ik : Nat) (m_ke : Nat) (m_tr : Nat) (ms : Int32) (mt : Int32) (ml : Int32) (mk : Int32) (mv : Int32) (mb : Int32) (mw : Int32) (mz : Nat) (mp : Nat) (ma : Nat) (mx : Nat) (ft_ : Nat → Int32) (hmp : mp ≤ mz) (hmz : mz ≤ 120) : Met l yX8_nextToken wsX8_nextToken ({ frames := 1, cells := 0, slots := 0, locals := 25 }) (va_Pc [.ref mo] (fun U => U.heap.size = sz ∧ va_P (dC, dI) vwCl [(xo_8_rrriirrriiiiiiirrirrrrri mo m_la m_sz m_it ms mt m_st m_mv m_tp (nI mz) ml (nI mp) mk mv mb mw m_rd m_ac (nI ma) m_as m_wo m_ik m_ke m_tr (nI mx)), (xI m_tp cI 120 ft_)] U.heap ∧ va_K (dC, dI) vwCl [(cI, .int), (cZ, .boolean), (cL, .object RX3), (cJ, .array .int)] U ∧ va_D (fun _ => True) [(xo_8_rrriirrriiiiiiirrirrrrri mo m_la m_sz m_it ms mt m_st m_mv m_tp (nI mz) ml (nI mp) mk mv mb mw m_rd m_ac (nI ma) m_as m_wo m_ik m_ke m_tr (nI mx)), (xI m_tp cI 120 ft_)])) (va_Qv (fun (_ : Unit) => True) (fun (_ : Unit) t => ∃ (mkn : Int32) (mvn : Int32) (mbn : Int32) (mpn : Nat), va_P (dC, dI) vwCl [(xo_8_rrriirrriiiiiiirrirrrrri mo m_la m_sz m_it ms mt m_st m_mv m_tp (nI mz) ml (nI mpn) mkn mvn mbn mw m_rd m_ac (nI ma) m_as m_wo m_ik m_ke m_tr (nI mx)), (xI m_tp cI 120 ft_)] t.heap ∧ va_D (va_A [(xo_8_rrriirrriiiiiiirrirrrrri mo m_la m_sz m_it ms mt m_st m_mv m_tp (nI mz) ml (nI mp) mk mv mb mw m_rd m_ac (nI ma) m_as m_wo m_ik m_ke m_tr (nI mx)), (xI m_tp cI 120 ft_)] sz) [(xo_8_rrriirrriiiiiiirrirrrrri mo m_la m_sz m_it ms mt m_st m_mv m_tp (nI mz) ml (nI mpn) mkn mvn mbn mw m_rd m_ac (nI ma) m_as m_wo m_ik m_ke m_tr (nI mx)), (xI m_tp cI 120 ft_)] ∧ mpn ≤ mz ∧ nT ft_ mz mp = (mkn, mvn, mbn, mpn)) (va_A [(xo_8_rrriirrriiiiiiirrirrrrri mo m_la m_sz m_it ms mt m_st m_mv m_tp (nI mz) ml (nI mp) mk mv mb mw m_rd m_ac (nI ma) m_as m_wo m_ik m_ke m_tr (nI mx)), (xI m_tp cI 120 ft_)] sz)) 0 0 (va_A [(xo_8_rrriirrriiiiiiirrirrrrri mo m_la m_sz m_it ms mt m_st m_mv m_tp (nI mz) ml (nI mp) mk mv mb mw m_rd m_ac (nI ma) m_as m_wo m_ik m_ke m_tr (nI mx)), (xI m_tp cI 120 ft_)] sz) := by
  refine Met.ofW (cc := cX8_nextToken) (maxL := 1) (ret := none) (by decide) rfl ?_
  intro p e s m args below meth c s₁ B hml hv
  obtain ⟨rfl, hsz, hP, hK, hD0⟩ := hv
  have hx := B.exec
  have hb := B.bytes
  have hr := B.returns
  have hts := atoms_spec (ws := wsX8_nextToken) B.pre
  have hown : s.vm.findClass RX8 = some m.cls := findClass_of_methodNamed B.named
  have hlocks := B.notSynchronized
  subst hsz
  have hD := hD0.self (sz := s.heap.size)
  generalize hAe : va_A [(xo_8_rrriirrriiiiiiirrirrrrri mo m_la m_sz m_it ms mt m_st m_mv m_tp (nI mz) ml (nI mp) mk mv mb mw m_rd m_ac (nI ma) m_as m_wo m_ik m_ke m_tr (nI mx)), (xI m_tp cI 120 ft_)] s.heap.size = A at hD ⊢
  have hA : ∀ q : Nat, s.heap.size ≤ q → A q := fun q h => by rw [← hAe]; exact Or.inr h
  have hS : va_S A s.heap s.heap [] := va_S.rf
  have hP : va_P (dC, dI) vwCl [(xo_8_rrriirrriiiiiiirrirrrrri mo m_la m_sz m_it ms mt m_st m_mv m_tp (nI mz) ml (nI mp) mk mv mb mw m_rd m_ac (nI ma) m_as m_wo m_ik m_ke m_tr (nI mx)), (xI m_tp cI 120 ft_)] s.heap := hP
  have hl := lv_entry ([.ref mo]) (n := 1) (Nat.le_of_ble_eq_true rfl)
  rw [lg_entry_eq]
  generalize (lg_sl ([.ref mo]) ++ List.replicate (1 - (lg_sl ([.ref mo])).length) Slot.unset).toArray = ls at hl ⊢
  have hl : lv_has ls 1 [(0, .ref mo)] := hl
  refine lv_aload_n hx hb dX8_nextToken_0 rfl (lv_at hl 0 rfl) ?_
  refine lv_aload_n hx hb dX8_nextToken_1 rfl (lv_at hl 0 rfl) ?_
  refine va_get (D := (dC, dI)) (ci := 8) (v := .int (nI mp)) (C := RX8) (T := TX8) (N := 24) hx hb hts i_X8_nextToken_X8 hown hK hP 0 rfl rfl 10 (by decide) (hts _ mx_X8_nextToken_1) (fun _ h9 => h9) rfl dX8_nextToken_2 ?_
  refine va_put (D := (dC, dI)) (ci := 8) (v := .int (nI mp)) (ty := .int) (C := RX8) (T := TX8) (N := 24) hx hb hts i_X8_nextToken_X8 tyX8 tyX8_ok nmX8 hown hK hP hD hS 0 rfl rfl 13 (by decide) (hts _ mx_X8_nextToken_2) (fun _ h9 => h9) rfl (by decide +kernel) rfl rfl (Nat.le_of_ble_eq_true rfl) dX8_nextToken_5 (fun H locs hP hD hS => ?_)
  have hP : va_P (dC, dI) vwCl [(xo_8_rrriirrriiiiiiirrirrrrri mo m_la m_sz m_it ms mt m_st m_mv m_tp (nI mz) ml (nI mp) mk mv (nI mp) mw m_rd m_ac (nI ma) m_as m_wo m_ik m_ke m_tr (nI mx)), (xI m_tp cI 120 ft_)] H := hP
  have hD := dto hP hD
  refine lv_aload_n hx hb dX8_nextToken_8 rfl (lv_at hl 0 rfl) ?_
  refine lv_aload_n hx hb dX8_nextToken_9 rfl (lv_at hl 0 rfl) ?_
  refine va_get (D := (dC, dI)) (ci := 8) (v := .int (nI mp)) (C := RX8) (T := TX8) (N := 24) hx hb hts i_X8_nextToken_X8 hown hK hP 0 rfl rfl 10 (by decide) (hts _ mx_X8_nextToken_1) (fun _ h9 => h9) rfl dX8_nextToken_10 ?_
  refine lv_aload_n hx hb dX8_nextToken_13 rfl (lv_at hl 0 rfl) ?_
  refine va_get (D := (dC, dI)) (ci := 8) (v := .int (nI mz)) (C := RX8) (T := TX8) (N := 24) hx hb hts i_X8_nextToken_X8 hown hK hP 0 rfl rfl 8 (by decide) (hts _ mx_X8_nextToken_3) (fun _ h9 => h9) rfl dX8_nextToken_14 ?_
  refine lv_icmp_ne (tgt := 24) hx hb dX8_nextToken_17 (by decide) (fun c_1 => ?_) (fun c_1 => ?_)
  · have c_1 : ¬ (mp = mz) := fun q_ => c_1 ((nI_eq (a := mp) (b := mz) (by omega) (by omega)).mpr q_)
    refine lv_iconst (v := 0) hx hb dX8_nextToken_24 (by decide) ?_
    refine va_put (D := (dC, dI)) (ci := 8) (v := .int 0) (ty := .int) (C := RX8) (T := TX8) (N := 24) hx hb hts i_X8_nextToken_X8 tyX8 tyX8_ok nmX8 hown hK hP hD hS 0 rfl rfl 11 (by decide) (hts _ mx_X8_nextToken_4) (fun _ h9 => h9) rfl (by decide +kernel) rfl rfl (Nat.le_of_ble_eq_true rfl) dX8_nextToken_25 (fun H locs hP hD hS => ?_)
    have hP : va_P (dC, dI) vwCl [(xo_8_rrriirrriiiiiiirrirrrrri mo m_la m_sz m_it ms mt m_st m_mv m_tp (nI mz) ml (nI mp) 0 mv (nI mp) mw m_rd m_ac (nI ma) m_as m_wo m_ik m_ke m_tr (nI mx)), (xI m_tp cI 120 ft_)] H := hP
    have hD := dto hP hD
    refine lv_aload_n hx hb dX8_nextToken_28 rfl (lv_at hl 0 rfl) ?_
    refine lv_iconst (v := 0) hx hb dX8_nextToken_29 (by decide) ?_
    refine va_put (D := (dC, dI)) (ci := 8) (v := .int 0) (ty := .int) (C := RX8) (T := TX8) (N := 24) hx hb hts i_X8_nextToken_X8 tyX8 tyX8_ok nmX8 hown hK hP hD hS 0 rfl rfl 12 (by decide) (hts _ mx_X8_nextToken_5) (fun _ h9 => h9) rfl (by decide +kernel) rfl rfl (Nat.le_of_ble_eq_true rfl) dX8_nextToken_30 (fun H locs hP hD hS => ?_)
    have hP : va_P (dC, dI) vwCl [(xo_8_rrriirrriiiiiiirrirrrrri mo m_la m_sz m_it ms mt m_st m_mv m_tp (nI mz) ml (nI mp) 0 0 (nI mp) mw m_rd m_ac (nI ma) m_as m_wo m_ik m_ke m_tr (nI mx)), (xI m_tp cI 120 ft_)] H := hP
    have hD := dto hP hD
    refine lp_ms (σ := (Nat) × (Int32)) (fun (st : (Nat) × (Int32)) H locs ls => match st with | (w_41, w_42) => lv_has ls 1 [(0, .ref mo)] ∧ va_P (dC, dI) vwCl [(xo_8_rrriirrriiiiiiirrirrrrri mo m_la m_sz m_it ms mt m_st m_mv m_tp (nI mz) ml (nI w_41) 0 w_42 (nI mp) mw m_rd m_ac (nI ma) m_as m_wo m_ik m_ke m_tr (nI mx)), (xI m_tp cI 120 ft_)] H ∧ va_D A [(xo_8_rrriirrriiiiiiirrirrrrri mo m_la m_sz m_it ms mt m_st m_mv m_tp (nI mz) ml (nI w_41) 0 w_42 (nI mp) mw m_rd m_ac (nI ma) m_as m_wo m_ik m_ke m_tr (nI mx)), (xI m_tp cI 120 ft_)] ∧ va_S A s.heap H locs ∧ (dgM ft_ mz (mz - w_41) w_42 w_41 = dgM ft_ mz (mz - mp) 0 mp) ∧ (mp ≤ w_41 ∧ w_41 ≤ mz)) (fun (st : (Nat) × (Int32)) => match st with | (w_41, w_42) => mz - w_41) ?_ (mp, 0) ⟨lv_sub hl [0] rfl, hP.sub (ws' := [(xo_8_rrriirrriiiiiiirrirrrrri mo m_la m_sz m_it ms mt m_st m_mv m_tp (nI mz) ml (nI mp) 0 0 (nI mp) mw m_rd m_ac (nI ma) m_as m_wo m_ik m_ke m_tr (nI mx)), (xI m_tp cI 120 ft_)]) [0, 1] rfl, hD.sub (ws' := [(xo_8_rrriirrriiiiiiirrirrrrri mo m_la m_sz m_it ms mt m_st m_mv m_tp (nI mz) ml (nI mp) 0 0 (nI mp) mw m_rd m_ac (nI ma) m_as m_wo m_ik m_ke m_tr (nI mx)), (xI m_tp cI 120 ft_)]) [0, 1] (by decide +kernel) rfl, hS, rfl, (by omega)⟩
    rintro ⟨w_41, w_42⟩ H locs ls ⟨hl, hP, hD, hS, haf_0, hnb_w_41⟩ ih
    refine lv_aload_n hx hb dX8_nextToken_33 rfl (lv_at hl 0 rfl) ?_
    refine va_get (D := (dC, dI)) (ci := 8) (v := .int (nI w_41)) (C := RX8) (T := TX8) (N := 24) hx hb hts i_X8_nextToken_X8 hown hK hP 0 rfl rfl 10 (by decide) (hts _ mx_X8_nextToken_1) (fun _ h9 => h9) rfl dX8_nextToken_34 ?_
    refine lv_aload_n hx hb dX8_nextToken_37 rfl (lv_at hl 0 rfl) ?_
    refine va_get (D := (dC, dI)) (ci := 8) (v := .int (nI mz)) (C := RX8) (T := TX8) (N := 24) hx hb hts i_X8_nextToken_X8 hown hK hP 0 rfl rfl 8 (by decide) (hts _ mx_X8_nextToken_3) (fun _ h9 => h9) rfl dX8_nextToken_38 ?_
    refine lv_icmp_ge (tgt := 119) hx hb dX8_nextToken_41 (by decide) (fun c_85 => ?_) (fun c_85 => ?_)
    · have c_85 : mz ≤ w_41 := (nI_leI (a := mz) (b := w_41) (by omega) (by omega)).mp c_85
      refine lv_aload_n hx hb dX8_nextToken_119 rfl (lv_at hl 0 rfl) ?_
      refine va_get (D := (dC, dI)) (ci := 8) (v := .int (nI w_41)) (C := RX8) (T := TX8) (N := 24) hx hb hts i_X8_nextToken_X8 hown hK hP 0 rfl rfl 10 (by decide) (hts _ mx_X8_nextToken_1) (fun _ h9 => h9) rfl dX8_nextToken_120 ?_
      refine lv_aload_n hx hb dX8_nextToken_123 rfl (lv_at hl 0 rfl) ?_
      refine va_get (D := (dC, dI)) (ci := 8) (v := .int (nI mp)) (C := RX8) (T := TX8) (N := 24) hx hb hts i_X8_nextToken_X8 hown hK hP 0 rfl rfl 13 (by decide) (hts _ mx_X8_nextToken_2) (fun _ h9 => h9) rfl dX8_nextToken_124 ?_
      refine lv_icmp_le (tgt := 155) hx hb dX8_nextToken_127 (by decide) (fun c_86 => ?_) (fun c_86 => ?_)
      · have c_86 : w_41 ≤ mp := (nI_leI (a := w_41) (b := mp) (by omega) (by omega)).mp c_86
        refine lv_aload_n hx hb dX8_nextToken_155 rfl (lv_at hl 0 rfl) ?_
        refine va_get (D := (dC, dI)) (ci := 8) (v := .int 0) (C := RX8) (T := TX8) (N := 24) hx hb hts i_X8_nextToken_X8 hown hK hP 0 rfl rfl 11 (by decide) (hts _ mx_X8_nextToken_4) (fun _ h9 => h9) rfl dX8_nextToken_156 ?_
        refine lv_if_ne (tgt := 229) hx hb dX8_nextToken_159 (by decide) (fun c_ => absurd (by decide) c_) (fun _ => ?_)
        refine lv_aload_n hx hb dX8_nextToken_162 rfl (lv_at hl 0 rfl) ?_
        refine lv_aload_n hx hb dX8_nextToken_163 rfl (lv_at hl 0 rfl) ?_
        refine va_get (D := (dC, dI)) (ci := 8) (v := .ref m_tp) (C := RX8) (T := TX8) (N := 24) hx hb hts i_X8_nextToken_X8 hown hK hP 0 rfl rfl 7 (by decide) (hts _ mx_X8_nextToken_6) (fun _ h9 => h9) rfl dX8_nextToken_164 ?_
        refine lv_aload_n hx hb dX8_nextToken_167 rfl (lv_at hl 0 rfl) ?_
        refine va_get (D := (dC, dI)) (ci := 8) (v := .int (nI w_41)) (C := RX8) (T := TX8) (N := 24) hx hb hts i_X8_nextToken_X8 hown hK hP 0 rfl rfl 10 (by decide) (hts _ mx_X8_nextToken_1) (fun _ h9 => h9) rfl dX8_nextToken_168 ?_
        refine va_iald hx hb hK hP 1 0 rfl rfl (vp_in_nI (by omega) (by omega)) dX8_nextToken_171 ?_
        refine lv_topi (fun v_88 e_88 => ?_)
        have e_88 : v_88 = ft_ w_41 := e_88.trans (congrArg ft_ (nI_clamp (by omega)))
        refine va_put (D := (dC, dI)) (ci := 8) (v := .int v_88) (ty := .int) (C := RX8) (T := TX8) (N := 24) hx hb hts i_X8_nextToken_X8 tyX8 tyX8_ok nmX8 hown hK hP hD hS 0 rfl rfl 12 (by decide) (hts _ mx_X8_nextToken_5) (fun _ h9 => h9) rfl (by decide +kernel) rfl rfl (Nat.le_of_ble_eq_true rfl) dX8_nextToken_172 (fun H locs hP hD hS => ?_)
        have hP : va_P (dC, dI) vwCl [(xo_8_rrriirrriiiiiiirrirrrrri mo m_la m_sz m_it ms mt m_st m_mv m_tp (nI mz) ml (nI w_41) 0 v_88 (nI mp) mw m_rd m_ac (nI ma) m_as m_wo m_ik m_ke m_tr (nI mx)), (xI m_tp cI 120 ft_)] H := hP
        have hD := dto hP hD
        refine lv_aload_n hx hb dX8_nextToken_175 rfl (lv_at hl 0 rfl) ?_
        refine lv_aload_n hx hb dX8_nextToken_176 rfl (lv_at hl 0 rfl) ?_
        refine va_get (D := (dC, dI)) (ci := 8) (v := .int v_88) (C := RX8) (T := TX8) (N := 24) hx hb hts i_X8_nextToken_X8 hown hK hP 0 rfl rfl 12 (by decide) (hts _ mx_X8_nextToken_5) (fun _ h9 => h9) rfl dX8_nextToken_177 ?_
        refine lv_i2l hx hb dX8_nextToken_180 rfl ?_
        refine lv_ldc2 (own := RX8) (v := 97) hx hb hown (hts _ mx_X8_nextToken_9) dX8_nextToken_181 ?_
        refine lv_ldc2 (own := RX8) (v := 122) hx hb hown (hts _ mx_X8_nextToken_10) dX8_nextToken_184 ?_
        have hPc_89 := hP.sub (ws' := []) [] rfl
        refine vp_callSi (W.runS (As := [.long (v_88).toInt64, .long 97, .long 122]) (rest := [.ref mo]) ⟨hx, hb, hml, hown, hts⟩ (r_X8_in l dC dI cI cZ cL cJ ((v_88).toInt64) 97 122 ) (va_cwS 3 hts gX8_nextToken_X8_in rfl rfl rfl (by decide +kernel) ⟨Nat.le_of_ble_eq_true rfl, Nat.le_of_ble_eq_true rfl⟩) (psP hK hPc_89) rfl rfl hl.1 rfl (lv_room (Nat.le_of_ble_eq_true rfl)) dX8_nextToken_187 ⟨Nat.le_of_ble_eq_true rfl, Nat.le_of_ble_eq_true rfl⟩) (fun r_89 h_89 => ?_)
        rcases h_89 with ⟨h_89, f_89_0_0⟩ | ⟨h_89, f_89_1_0⟩
        · subst h_89
          refine lv_if_ne (tgt := 211) hx hb dX8_nextToken_190 (by decide) (fun c_ => absurd (by decide) c_) (fun _ => ?_)
          refine lv_aload_n hx hb dX8_nextToken_193 rfl (lv_at hl 0 rfl) ?_
          refine va_get (D := (dC, dI)) (ci := 8) (v := .int v_88) (C := RX8) (T := TX8) (N := 24) hx hb hts i_X8_nextToken_X8 hown hK hP 0 rfl rfl 12 (by decide) (hts _ mx_X8_nextToken_5) (fun _ h9 => h9) rfl dX8_nextToken_194 ?_
          refine lv_bipush (v := 44) hx hb dX8_nextToken_197 (by decide) ?_
          refine lv_icmp_eq (tgt := 211) hx hb dX8_nextToken_199 (by decide) (fun c_91 => ?_) (fun c_91 => ?_)
          · skip
            refine lv_iconst (v := 1) hx hb dX8_nextToken_211 (by decide) ?_
            refine lv_goto (tgt := 216) hx hb dX8_nextToken_212 (by decide) ?_
            refine va_put (D := (dC, dI)) (ci := 8) (v := .int 1) (ty := .int) (C := RX8) (T := TX8) (N := 24) hx hb hts i_X8_nextToken_X8 tyX8 tyX8_ok nmX8 hown hK hP hD hS 0 rfl rfl 11 (by decide) (hts _ mx_X8_nextToken_4) (fun _ h9 => h9) rfl (by decide +kernel) rfl rfl (Nat.le_of_ble_eq_true rfl) dX8_nextToken_216 (fun H locs hP hD hS => ?_)
            have hP : va_P (dC, dI) vwCl [(xo_8_rrriirrriiiiiiirrirrrrri mo m_la m_sz m_it ms mt m_st m_mv m_tp (nI mz) ml (nI w_41) 1 v_88 (nI mp) mw m_rd m_ac (nI ma) m_as m_wo m_ik m_ke m_tr (nI mx)), (xI m_tp cI 120 ft_)] H := hP
            have hD := dto hP hD
            refine lv_aload_n hx hb dX8_nextToken_219 rfl (lv_at hl 0 rfl) ?_
            refine lv_dup hx hb dX8_nextToken_220 rfl ?_
            refine va_get (D := (dC, dI)) (ci := 8) (v := .int (nI w_41)) (C := RX8) (T := TX8) (N := 24) hx hb hts i_X8_nextToken_X8 hown hK hP 0 rfl rfl 10 (by decide) (hts _ mx_X8_nextToken_1) (fun _ h9 => h9) rfl dX8_nextToken_221 ?_
            refine lv_iconst (v := 1) hx hb dX8_nextToken_224 (by decide) ?_
            refine lv_iadd hx hb dX8_nextToken_225 ?_
            refine lv_topi (fun v_92 e_92 => ?_)
            obtain rfl : v_92 = (nI (w_41 + 1)) := (e_92).trans (nI_add w_41 1)
            refine va_put (D := (dC, dI)) (ci := 8) (v := .int (nI (w_41 + 1))) (ty := .int) (C := RX8) (T := TX8) (N := 24) hx hb hts i_X8_nextToken_X8 tyX8 tyX8_ok nmX8 hown hK hP hD hS 0 rfl rfl 10 (by decide) (hts _ mx_X8_nextToken_1) (fun _ h9 => h9) rfl (by decide +kernel) rfl rfl (Nat.le_of_ble_eq_true rfl) dX8_nextToken_226 (fun H locs hP hD hS => ?_)
            have hP : va_P (dC, dI) vwCl [(xo_8_rrriirrriiiiiiirrirrrrri mo m_la m_sz m_it ms mt m_st m_mv m_tp (nI mz) ml (nI (w_41 + 1)) 1 v_88 (nI mp) mw m_rd m_ac (nI ma) m_as m_wo m_ik m_ke m_tr (nI mx)), (xI m_tp cI 120 ft_)] H := hP
            have hD := dto hP hD
            have hX9 := cut2 (wc := [(xo_8_rrriirrriiiiiiirrirrrrri mo m_la m_sz m_it ms mt m_st m_mv m_tp (nI mz) ml (nI (w_41 + 1)) 1 v_88 (nI mp) mw m_rd m_ac (nI ma) m_as m_wo m_ik m_ke m_tr (nI mx)), (xI m_tp cI 120 ft_)]) hP hD [0, 1] (by decide +kernel) rfl
            exact W.vret hx hb hr (fun t ht hW => ⟨⟨(), rfl, trivial, ⟨1, v_88, (nI mp), (w_41 + 1), va_Ht ht hX9.1, hX9.2, (lf_X8_nextToken_1 hmp hmz c_1 haf_0 hnb_w_41 c_85 c_86 e_88 f_89_0_0 c_91), (lf_X8_nextToken_2 hmp hmz c_1 haf_0 hnb_w_41 c_85 c_86 e_88 f_89_0_0 c_91)⟩⟩, hS.F ht⟩) hS.2.2 dX8_nextToken_229
          · skip
            refine lv_aload_n hx hb dX8_nextToken_202 rfl (lv_at hl 0 rfl) ?_
            refine va_get (D := (dC, dI)) (ci := 8) (v := .int v_88) (C := RX8) (T := TX8) (N := 24) hx hb hts i_X8_nextToken_X8 hown hK hP 0 rfl rfl 12 (by decide) (hts _ mx_X8_nextToken_5) (fun _ h9 => h9) rfl dX8_nextToken_203 ?_
            refine lv_bipush (v := 59) hx hb dX8_nextToken_206 (by decide) ?_
            refine lv_icmp_ne (tgt := 215) hx hb dX8_nextToken_208 (by decide) (fun c_93 => ?_) (fun c_93 => ?_)
            · skip
              refine lv_iconst (v := 0) hx hb dX8_nextToken_215 (by decide) ?_
              refine va_put (D := (dC, dI)) (ci := 8) (v := .int 0) (ty := .int) (C := RX8) (T := TX8) (N := 24) hx hb hts i_X8_nextToken_X8 tyX8 tyX8_ok nmX8 hown hK hP hD hS 0 rfl rfl 11 (by decide) (hts _ mx_X8_nextToken_4) (fun _ h9 => h9) rfl (by decide +kernel) rfl rfl (Nat.le_of_ble_eq_true rfl) dX8_nextToken_216 (fun H locs hP hD hS => ?_)
              have hP : va_P (dC, dI) vwCl [(xo_8_rrriirrriiiiiiirrirrrrri mo m_la m_sz m_it ms mt m_st m_mv m_tp (nI mz) ml (nI w_41) 0 v_88 (nI mp) mw m_rd m_ac (nI ma) m_as m_wo m_ik m_ke m_tr (nI mx)), (xI m_tp cI 120 ft_)] H := hP
              have hD := dto hP hD
              refine lv_aload_n hx hb dX8_nextToken_219 rfl (lv_at hl 0 rfl) ?_
              refine lv_dup hx hb dX8_nextToken_220 rfl ?_
              refine va_get (D := (dC, dI)) (ci := 8) (v := .int (nI w_41)) (C := RX8) (T := TX8) (N := 24) hx hb hts i_X8_nextToken_X8 hown hK hP 0 rfl rfl 10 (by decide) (hts _ mx_X8_nextToken_1) (fun _ h9 => h9) rfl dX8_nextToken_221 ?_
              refine lv_iconst (v := 1) hx hb dX8_nextToken_224 (by decide) ?_
              refine lv_iadd hx hb dX8_nextToken_225 ?_
              refine lv_topi (fun v_94 e_94 => ?_)
              obtain rfl : v_94 = (nI (w_41 + 1)) := (e_94).trans (nI_add w_41 1)
              refine va_put (D := (dC, dI)) (ci := 8) (v := .int (nI (w_41 + 1))) (ty := .int) (C := RX8) (T := TX8) (N := 24) hx hb hts i_X8_nextToken_X8 tyX8 tyX8_ok nmX8 hown hK hP hD hS 0 rfl rfl 10 (by decide) (hts _ mx_X8_nextToken_1) (fun _ h9 => h9) rfl (by decide +kernel) rfl rfl (Nat.le_of_ble_eq_true rfl) dX8_nextToken_226 (fun H locs hP hD hS => ?_)
              have hP : va_P (dC, dI) vwCl [(xo_8_rrriirrriiiiiiirrirrrrri mo m_la m_sz m_it ms mt m_st m_mv m_tp (nI mz) ml (nI (w_41 + 1)) 0 v_88 (nI mp) mw m_rd m_ac (nI ma) m_as m_wo m_ik m_ke m_tr (nI mx)), (xI m_tp cI 120 ft_)] H := hP
              have hD := dto hP hD
              have hX9 := cut2 (wc := [(xo_8_rrriirrriiiiiiirrirrrrri mo m_la m_sz m_it ms mt m_st m_mv m_tp (nI mz) ml (nI (w_41 + 1)) 0 v_88 (nI mp) mw m_rd m_ac (nI ma) m_as m_wo m_ik m_ke m_tr (nI mx)), (xI m_tp cI 120 ft_)]) hP hD [0, 1] (by decide +kernel) rfl
              exact W.vret hx hb hr (fun t ht hW => ⟨⟨(), rfl, trivial, ⟨0, v_88, (nI mp), (w_41 + 1), va_Ht ht hX9.1, hX9.2, (lf_X8_nextToken_3 hmp hmz c_1 haf_0 hnb_w_41 c_85 c_86 e_88 f_89_0_0 c_91 c_93), (lf_X8_nextToken_4 hmp hmz c_1 haf_0 hnb_w_41 c_85 c_86 e_88 f_89_0_0 c_91 c_93)⟩⟩, hS.F ht⟩) hS.2.2 dX8_nextToken_229
            · skip
              refine lv_iconst (v := 1) hx hb dX8_nextToken_211 (by decide) ?_
              refine lv_goto (tgt := 216) hx hb dX8_nextToken_212 (by decide) ?_
              refine va_put (D := (dC, dI)) (ci := 8) (v := .int 1) (ty := .int) (C := RX8) (T := TX8) (N := 24) hx hb hts i_X8_nextToken_X8 tyX8 tyX8_ok nmX8 hown hK hP hD hS 0 rfl rfl 11 (by decide) (hts _ mx_X8_nextToken_4) (fun _ h9 => h9) rfl (by decide +kernel) rfl rfl (Nat.le_of_ble_eq_true rfl) dX8_nextToken_216 (fun H locs hP hD hS => ?_)
              have hP : va_P (dC, dI) vwCl [(xo_8_rrriirrriiiiiiirrirrrrri mo m_la m_sz m_it ms mt m_st m_mv m_tp (nI mz) ml (nI w_41) 1 v_88 (nI mp) mw m_rd m_ac (nI ma) m_as m_wo m_ik m_ke m_tr (nI mx)), (xI m_tp cI 120 ft_)] H := hP
              have hD := dto hP hD
              refine lv_aload_n hx hb dX8_nextToken_219 rfl (lv_at hl 0 rfl) ?_
              refine lv_dup hx hb dX8_nextToken_220 rfl ?_
              refine va_get (D := (dC, dI)) (ci := 8) (v := .int (nI w_41)) (C := RX8) (T := TX8) (N := 24) hx hb hts i_X8_nextToken_X8 hown hK hP 0 rfl rfl 10 (by decide) (hts _ mx_X8_nextToken_1) (fun _ h9 => h9) rfl dX8_nextToken_221 ?_
              refine lv_iconst (v := 1) hx hb dX8_nextToken_224 (by decide) ?_
              refine lv_iadd hx hb dX8_nextToken_225 ?_
              refine lv_topi (fun v_95 e_95 => ?_)
              obtain rfl : v_95 = (nI (w_41 + 1)) := (e_95).trans (nI_add w_41 1)
              refine va_put (D := (dC, dI)) (ci := 8) (v := .int (nI (w_41 + 1))) (ty := .int) (C := RX8) (T := TX8) (N := 24) hx hb hts i_X8_nextToken_X8 tyX8 tyX8_ok nmX8 hown hK hP hD hS 0 rfl rfl 10 (by decide) (hts _ mx_X8_nextToken_1) (fun _ h9 => h9) rfl (by decide +kernel) rfl rfl (Nat.le_of_ble_eq_true rfl) dX8_nextToken_226 (fun H locs hP hD hS => ?_)
              have hP : va_P (dC, dI) vwCl [(xo_8_rrriirrriiiiiiirrirrrrri mo m_la m_sz m_it ms mt m_st m_mv m_tp (nI mz) ml (nI (w_41 + 1)) 1 v_88 (nI mp) mw m_rd m_ac (nI ma) m_as m_wo m_ik m_ke m_tr (nI mx)), (xI m_tp cI 120 ft_)] H := hP
              have hD := dto hP hD
              have hX9 := cut2 (wc := [(xo_8_rrriirrriiiiiiirrirrrrri mo m_la m_sz m_it ms mt m_st m_mv m_tp (nI mz) ml (nI (w_41 + 1)) 1 v_88 (nI mp) mw m_rd m_ac (nI ma) m_as m_wo m_ik m_ke m_tr (nI mx)), (xI m_tp cI 120 ft_)]) hP hD [0, 1] (by decide +kernel) rfl
              exact W.vret hx hb hr (fun t ht hW => ⟨⟨(), rfl, trivial, ⟨1, v_88, (nI mp), (w_41 + 1), va_Ht ht hX9.1, hX9.2, (lf_X8_nextToken_5 hmp hmz c_1 haf_0 hnb_w_41 c_85 c_86 e_88 f_89_0_0 c_91 c_93), (lf_X8_nextToken_6 hmp hmz c_1 haf_0 hnb_w_41 c_85 c_86 e_88 f_89_0_0 c_91 c_93)⟩⟩, hS.F ht⟩) hS.2.2 dX8_nextToken_229
        · subst h_89
          refine lv_if_ne (tgt := 211) hx hb dX8_nextToken_190 (by decide) (fun _ => ?_) (fun c_ => absurd c_ (by decide))
          refine lv_iconst (v := 1) hx hb dX8_nextToken_211 (by decide) ?_
          refine lv_goto (tgt := 216) hx hb dX8_nextToken_212 (by decide) ?_
          refine va_put (D := (dC, dI)) (ci := 8) (v := .int 1) (ty := .int) (C := RX8) (T := TX8) (N := 24) hx hb hts i_X8_nextToken_X8 tyX8 tyX8_ok nmX8 hown hK hP hD hS 0 rfl rfl 11 (by decide) (hts _ mx_X8_nextToken_4) (fun _ h9 => h9) rfl (by decide +kernel) rfl rfl (Nat.le_of_ble_eq_true rfl) dX8_nextToken_216 (fun H locs hP hD hS => ?_)
          have hP : va_P (dC, dI) vwCl [(xo_8_rrriirrriiiiiiirrirrrrri mo m_la m_sz m_it ms mt m_st m_mv m_tp (nI mz) ml (nI w_41) 1 v_88 (nI mp) mw m_rd m_ac (nI ma) m_as m_wo m_ik m_ke m_tr (nI mx)), (xI m_tp cI 120 ft_)] H := hP
          have hD := dto hP hD
          refine lv_aload_n hx hb dX8_nextToken_219 rfl (lv_at hl 0 rfl) ?_
          refine lv_dup hx hb dX8_nextToken_220 rfl ?_
          refine va_get (D := (dC, dI)) (ci := 8) (v := .int (nI w_41)) (C := RX8) (T := TX8) (N := 24) hx hb hts i_X8_nextToken_X8 hown hK hP 0 rfl rfl 10 (by decide) (hts _ mx_X8_nextToken_1) (fun _ h9 => h9) rfl dX8_nextToken_221 ?_
          refine lv_iconst (v := 1) hx hb dX8_nextToken_224 (by decide) ?_
          refine lv_iadd hx hb dX8_nextToken_225 ?_
          refine lv_topi (fun v_97 e_97 => ?_)
          obtain rfl : v_97 = (nI (w_41 + 1)) := (e_97).trans (nI_add w_41 1)
          refine va_put (D := (dC, dI)) (ci := 8) (v := .int (nI (w_41 + 1))) (ty := .int) (C := RX8) (T := TX8) (N := 24) hx hb hts i_X8_nextToken_X8 tyX8 tyX8_ok nmX8 hown hK hP hD hS 0 rfl rfl 10 (by decide) (hts _ mx_X8_nextToken_1) (fun _ h9 => h9) rfl (by decide +kernel) rfl rfl (Nat.le_of_ble_eq_true rfl) dX8_nextToken_226 (fun H locs hP hD hS => ?_)
          have hP : va_P (dC, dI) vwCl [(xo_8_rrriirrriiiiiiirrirrrrri mo m_la m_sz m_it ms mt m_st m_mv m_tp (nI mz) ml (nI (w_41 + 1)) 1 v_88 (nI mp) mw m_rd m_ac (nI ma) m_as m_wo m_ik m_ke m_tr (nI mx)), (xI m_tp cI 120 ft_)] H := hP
          have hD := dto hP hD
          have hX9 := cut2 (wc := [(xo_8_rrriirrriiiiiiirrirrrrri mo m_la m_sz m_it ms mt m_st m_mv m_tp (nI mz) ml (nI (w_41 + 1)) 1 v_88 (nI mp) mw m_rd m_ac (nI ma) m_as m_wo m_ik m_ke m_tr (nI mx)), (xI m_tp cI 120 ft_)]) hP hD [0, 1] (by decide +kernel) rfl
          exact W.vret hx hb hr (fun t ht hW => ⟨⟨(), rfl, trivial, ⟨1, v_88, (nI mp), (w_41 + 1), va_Ht ht hX9.1, hX9.2, (lf_X8_nextToken_7 hmp hmz c_1 haf_0 hnb_w_41 c_85 c_86 e_88 f_89_1_0), (lf_X8_nextToken_8 hmp hmz c_1 haf_0 hnb_w_41 c_85 c_86 e_88 f_89_1_0)⟩⟩, hS.F ht⟩) hS.2.2 dX8_nextToken_229
      · have c_86 : ¬ (w_41 ≤ mp) := fun q_ => c_86 ((nI_leI (a := w_41) (b := mp) (by omega) (by omega)).mpr q_)
        refine lv_aload_n hx hb dX8_nextToken_130 rfl (lv_at hl 0 rfl) ?_
        refine lv_aload_n hx hb dX8_nextToken_131 rfl (lv_at hl 0 rfl) ?_
        refine va_get (D := (dC, dI)) (ci := 8) (v := .int (nI w_41)) (C := RX8) (T := TX8) (N := 24) hx hb hts i_X8_nextToken_X8 hown hK hP 0 rfl rfl 10 (by decide) (hts _ mx_X8_nextToken_1) (fun _ h9 => h9) rfl dX8_nextToken_132 ?_
        refine lv_aload_n hx hb dX8_nextToken_135 rfl (lv_at hl 0 rfl) ?_
        refine va_get (D := (dC, dI)) (ci := 8) (v := .int (nI mp)) (C := RX8) (T := TX8) (N := 24) hx hb hts i_X8_nextToken_X8 hown hK hP 0 rfl rfl 13 (by decide) (hts _ mx_X8_nextToken_2) (fun _ h9 => h9) rfl dX8_nextToken_136 ?_
        refine lv_isub hx hb dX8_nextToken_139 ?_
        refine lv_topi (fun v_98 e_98 => ?_)
        obtain rfl : v_98 = (nI (w_41 - mp)) := (e_98).trans (pk_sub (a := w_41) (b := mp) (by omega))
        refine lv_iconst (v := 2) hx hb dX8_nextToken_140 (by decide) ?_
        refine lv_icmp_le (tgt := 148) hx hb dX8_nextToken_141 (by decide) (fun c_99 => ?_) (fun c_99 => ?_)
        · have c_99 : (w_41 - mp) ≤ 2 := (nI_leI (a := (w_41 - mp)) (b := 2) (by omega) (by omega)).mp c_99
          refine lv_iconst (v := 2) hx hb dX8_nextToken_148 (by decide) ?_
          refine va_put (D := (dC, dI)) (ci := 8) (v := .int 2) (ty := .int) (C := RX8) (T := TX8) (N := 24) hx hb hts i_X8_nextToken_X8 tyX8 tyX8_ok nmX8 hown hK hP hD hS 0 rfl rfl 11 (by decide) (hts _ mx_X8_nextToken_4) (fun _ h9 => h9) rfl (by decide +kernel) rfl rfl (Nat.le_of_ble_eq_true rfl) dX8_nextToken_149 (fun H locs hP hD hS => ?_)
          have hP : va_P (dC, dI) vwCl [(xo_8_rrriirrriiiiiiirrirrrrri mo m_la m_sz m_it ms mt m_st m_mv m_tp (nI mz) ml (nI w_41) 2 w_42 (nI mp) mw m_rd m_ac (nI ma) m_as m_wo m_ik m_ke m_tr (nI mx)), (xI m_tp cI 120 ft_)] H := hP
          have hD := dto hP hD
          refine lv_goto (tgt := 229) hx hb dX8_nextToken_152 (by decide) ?_
          have hX9 := cut2 (wc := [(xo_8_rrriirrriiiiiiirrirrrrri mo m_la m_sz m_it ms mt m_st m_mv m_tp (nI mz) ml (nI w_41) 2 w_42 (nI mp) mw m_rd m_ac (nI ma) m_as m_wo m_ik m_ke m_tr (nI mx)), (xI m_tp cI 120 ft_)]) hP hD [0, 1] (by decide +kernel) rfl
          exact W.vret hx hb hr (fun t ht hW => ⟨⟨(), rfl, trivial, ⟨2, w_42, (nI mp), w_41, va_Ht ht hX9.1, hX9.2, (lf_X8_nextToken_9 hmp hmz c_1 haf_0 hnb_w_41 c_85 c_86 c_99), (lf_X8_nextToken_10 hmp hmz c_1 haf_0 hnb_w_41 c_85 c_86 c_99)⟩⟩, hS.F ht⟩) hS.2.2 dX8_nextToken_229
        · have c_99 : ¬ ((w_41 - mp) ≤ 2) := fun q_ => c_99 ((nI_leI (a := (w_41 - mp)) (b := 2) (by omega) (by omega)).mpr q_)
          refine lv_iconst (v := 0) hx hb dX8_nextToken_144 (by decide) ?_
          refine lv_goto (tgt := 149) hx hb dX8_nextToken_145 (by decide) ?_
          refine va_put (D := (dC, dI)) (ci := 8) (v := .int 0) (ty := .int) (C := RX8) (T := TX8) (N := 24) hx hb hts i_X8_nextToken_X8 tyX8 tyX8_ok nmX8 hown hK hP hD hS 0 rfl rfl 11 (by decide) (hts _ mx_X8_nextToken_4) (fun _ h9 => h9) rfl (by decide +kernel) rfl rfl (Nat.le_of_ble_eq_true rfl) dX8_nextToken_149 (fun H locs hP hD hS => ?_)
          have hP : va_P (dC, dI) vwCl [(xo_8_rrriirrriiiiiiirrirrrrri mo m_la m_sz m_it ms mt m_st m_mv m_tp (nI mz) ml (nI w_41) 0 w_42 (nI mp) mw m_rd m_ac (nI ma) m_as m_wo m_ik m_ke m_tr (nI mx)), (xI m_tp cI 120 ft_)] H := hP
          have hD := dto hP hD
          refine lv_goto (tgt := 229) hx hb dX8_nextToken_152 (by decide) ?_
          have hX9 := cut2 (wc := [(xo_8_rrriirrriiiiiiirrirrrrri mo m_la m_sz m_it ms mt m_st m_mv m_tp (nI mz) ml (nI w_41) 0 w_42 (nI mp) mw m_rd m_ac (nI ma) m_as m_wo m_ik m_ke m_tr (nI mx)), (xI m_tp cI 120 ft_)]) hP hD [0, 1] (by decide +kernel) rfl
          exact W.vret hx hb hr (fun t ht hW => ⟨⟨(), rfl, trivial, ⟨0, w_42, (nI mp), w_41, va_Ht ht hX9.1, hX9.2, (lf_X8_nextToken_11 hmp hmz c_1 haf_0 hnb_w_41 c_85 c_86 c_99), (lf_X8_nextToken_12 hmp hmz c_1 haf_0 hnb_w_41 c_85 c_86 c_99)⟩⟩, hS.F ht⟩) hS.2.2 dX8_nextToken_229
    · have c_85 : ¬ (mz ≤ w_41) := fun q_ => c_85 ((nI_leI (a := mz) (b := w_41) (by omega) (by omega)).mpr q_)
      refine lv_aload_n hx hb dX8_nextToken_44 rfl (lv_at hl 0 rfl) ?_
      refine va_get (D := (dC, dI)) (ci := 8) (v := .ref m_tp) (C := RX8) (T := TX8) (N := 24) hx hb hts i_X8_nextToken_X8 hown hK hP 0 rfl rfl 7 (by decide) (hts _ mx_X8_nextToken_6) (fun _ h9 => h9) rfl dX8_nextToken_45 ?_
      refine lv_aload_n hx hb dX8_nextToken_48 rfl (lv_at hl 0 rfl) ?_
      refine va_get (D := (dC, dI)) (ci := 8) (v := .int (nI w_41)) (C := RX8) (T := TX8) (N := 24) hx hb hts i_X8_nextToken_X8 hown hK hP 0 rfl rfl 10 (by decide) (hts _ mx_X8_nextToken_1) (fun _ h9 => h9) rfl dX8_nextToken_49 ?_
      refine va_iald hx hb hK hP 1 0 rfl rfl (vp_in_nI (by omega) (by omega)) dX8_nextToken_52 ?_
      refine lv_topi (fun v_100 e_100 => ?_)
      have e_100 : v_100 = ft_ w_41 := e_100.trans (congrArg ft_ (nI_clamp (by omega)))
      refine lv_i2l hx hb dX8_nextToken_53 rfl ?_
      refine lv_ldc2 (own := RX8) (v := 48) hx hb hown (hts _ mx_X8_nextToken_7) dX8_nextToken_54 ?_
      refine lv_ldc2 (own := RX8) (v := 57) hx hb hown (hts _ mx_X8_nextToken_8) dX8_nextToken_57 ?_
      have hPc_101 := hP.sub (ws' := []) [] rfl
      refine vp_callSi (W.runS (As := [.long (v_100).toInt64, .long 48, .long 57]) (rest := []) ⟨hx, hb, hml, hown, hts⟩ (r_X8_in l dC dI cI cZ cL cJ ((v_100).toInt64) 48 57 ) (va_cwS 3 hts gX8_nextToken_X8_in rfl rfl rfl (by decide +kernel) ⟨Nat.le_of_ble_eq_true rfl, Nat.le_of_ble_eq_true rfl⟩) (psP hK hPc_101) rfl rfl hl.1 rfl (lv_room (Nat.le_of_ble_eq_true rfl)) dX8_nextToken_60 ⟨Nat.le_of_ble_eq_true rfl, Nat.le_of_ble_eq_true rfl⟩) (fun r_101 h_101 => ?_)
      rcases h_101 with ⟨h_101, f_101_0_0⟩ | ⟨h_101, f_101_1_0⟩
      · subst h_101
        refine lv_if_eq (tgt := 119) hx hb dX8_nextToken_63 (by decide) (fun _ => ?_) (fun c_ => absurd (by decide) c_)
        refine lv_aload_n hx hb dX8_nextToken_119 rfl (lv_at hl 0 rfl) ?_
        refine va_get (D := (dC, dI)) (ci := 8) (v := .int (nI w_41)) (C := RX8) (T := TX8) (N := 24) hx hb hts i_X8_nextToken_X8 hown hK hP 0 rfl rfl 10 (by decide) (hts _ mx_X8_nextToken_1) (fun _ h9 => h9) rfl dX8_nextToken_120 ?_
        refine lv_aload_n hx hb dX8_nextToken_123 rfl (lv_at hl 0 rfl) ?_
        refine va_get (D := (dC, dI)) (ci := 8) (v := .int (nI mp)) (C := RX8) (T := TX8) (N := 24) hx hb hts i_X8_nextToken_X8 hown hK hP 0 rfl rfl 13 (by decide) (hts _ mx_X8_nextToken_2) (fun _ h9 => h9) rfl dX8_nextToken_124 ?_
        refine lv_icmp_le (tgt := 155) hx hb dX8_nextToken_127 (by decide) (fun c_103 => ?_) (fun c_103 => ?_)
        · have c_103 : w_41 ≤ mp := (nI_leI (a := w_41) (b := mp) (by omega) (by omega)).mp c_103
          refine lv_aload_n hx hb dX8_nextToken_155 rfl (lv_at hl 0 rfl) ?_
          refine va_get (D := (dC, dI)) (ci := 8) (v := .int 0) (C := RX8) (T := TX8) (N := 24) hx hb hts i_X8_nextToken_X8 hown hK hP 0 rfl rfl 11 (by decide) (hts _ mx_X8_nextToken_4) (fun _ h9 => h9) rfl dX8_nextToken_156 ?_
          refine lv_if_ne (tgt := 229) hx hb dX8_nextToken_159 (by decide) (fun c_ => absurd (by decide) c_) (fun _ => ?_)
          refine lv_aload_n hx hb dX8_nextToken_162 rfl (lv_at hl 0 rfl) ?_
          refine lv_aload_n hx hb dX8_nextToken_163 rfl (lv_at hl 0 rfl) ?_
          refine va_get (D := (dC, dI)) (ci := 8) (v := .ref m_tp) (C := RX8) (T := TX8) (N := 24) hx hb hts i_X8_nextToken_X8 hown hK hP 0 rfl rfl 7 (by decide) (hts _ mx_X8_nextToken_6) (fun _ h9 => h9) rfl dX8_nextToken_164 ?_
          refine lv_aload_n hx hb dX8_nextToken_167 rfl (lv_at hl 0 rfl) ?_
          refine va_get (D := (dC, dI)) (ci := 8) (v := .int (nI w_41)) (C := RX8) (T := TX8) (N := 24) hx hb hts i_X8_nextToken_X8 hown hK hP 0 rfl rfl 10 (by decide) (hts _ mx_X8_nextToken_1) (fun _ h9 => h9) rfl dX8_nextToken_168 ?_
          refine va_iald hx hb hK hP 1 0 rfl rfl (vp_in_nI (by omega) (by omega)) dX8_nextToken_171 ?_
          refine lv_topi (fun v_105 e_105 => ?_)
          have e_105 : v_105 = ft_ w_41 := e_105.trans (congrArg ft_ (nI_clamp (by omega)))
          refine va_put (D := (dC, dI)) (ci := 8) (v := .int v_105) (ty := .int) (C := RX8) (T := TX8) (N := 24) hx hb hts i_X8_nextToken_X8 tyX8 tyX8_ok nmX8 hown hK hP hD hS 0 rfl rfl 12 (by decide) (hts _ mx_X8_nextToken_5) (fun _ h9 => h9) rfl (by decide +kernel) rfl rfl (Nat.le_of_ble_eq_true rfl) dX8_nextToken_172 (fun H locs hP hD hS => ?_)
          have hP : va_P (dC, dI) vwCl [(xo_8_rrriirrriiiiiiirrirrrrri mo m_la m_sz m_it ms mt m_st m_mv m_tp (nI mz) ml (nI w_41) 0 v_105 (nI mp) mw m_rd m_ac (nI ma) m_as m_wo m_ik m_ke m_tr (nI mx)), (xI m_tp cI 120 ft_)] H := hP
          have hD := dto hP hD
          refine lv_aload_n hx hb dX8_nextToken_175 rfl (lv_at hl 0 rfl) ?_
          refine lv_aload_n hx hb dX8_nextToken_176 rfl (lv_at hl 0 rfl) ?_
          refine va_get (D := (dC, dI)) (ci := 8) (v := .int v_105) (C := RX8) (T := TX8) (N := 24) hx hb hts i_X8_nextToken_X8 hown hK hP 0 rfl rfl 12 (by decide) (hts _ mx_X8_nextToken_5) (fun _ h9 => h9) rfl dX8_nextToken_177 ?_
          refine lv_i2l hx hb dX8_nextToken_180 rfl ?_
          refine lv_ldc2 (own := RX8) (v := 97) hx hb hown (hts _ mx_X8_nextToken_9) dX8_nextToken_181 ?_
          refine lv_ldc2 (own := RX8) (v := 122) hx hb hown (hts _ mx_X8_nextToken_10) dX8_nextToken_184 ?_
          have hPc_106 := hP.sub (ws' := []) [] rfl
          refine vp_callSi (W.runS (As := [.long (v_105).toInt64, .long 97, .long 122]) (rest := [.ref mo]) ⟨hx, hb, hml, hown, hts⟩ (r_X8_in l dC dI cI cZ cL cJ ((v_105).toInt64) 97 122 ) (va_cwS 3 hts gX8_nextToken_X8_in rfl rfl rfl (by decide +kernel) ⟨Nat.le_of_ble_eq_true rfl, Nat.le_of_ble_eq_true rfl⟩) (psP hK hPc_106) rfl rfl hl.1 rfl (lv_room (Nat.le_of_ble_eq_true rfl)) dX8_nextToken_187 ⟨Nat.le_of_ble_eq_true rfl, Nat.le_of_ble_eq_true rfl⟩) (fun r_106 h_106 => ?_)
          rcases h_106 with ⟨h_106, f_106_0_0⟩ | ⟨h_106, f_106_1_0⟩
          · subst h_106
            refine lv_if_ne (tgt := 211) hx hb dX8_nextToken_190 (by decide) (fun c_ => absurd (by decide) c_) (fun _ => ?_)
            refine lv_aload_n hx hb dX8_nextToken_193 rfl (lv_at hl 0 rfl) ?_
            refine va_get (D := (dC, dI)) (ci := 8) (v := .int v_105) (C := RX8) (T := TX8) (N := 24) hx hb hts i_X8_nextToken_X8 hown hK hP 0 rfl rfl 12 (by decide) (hts _ mx_X8_nextToken_5) (fun _ h9 => h9) rfl dX8_nextToken_194 ?_
            refine lv_bipush (v := 44) hx hb dX8_nextToken_197 (by decide) ?_
            refine lv_icmp_eq (tgt := 211) hx hb dX8_nextToken_199 (by decide) (fun c_108 => ?_) (fun c_108 => ?_)
            · skip
              refine lv_iconst (v := 1) hx hb dX8_nextToken_211 (by decide) ?_
              refine lv_goto (tgt := 216) hx hb dX8_nextToken_212 (by decide) ?_
              refine va_put (D := (dC, dI)) (ci := 8) (v := .int 1) (ty := .int) (C := RX8) (T := TX8) (N := 24) hx hb hts i_X8_nextToken_X8 tyX8 tyX8_ok nmX8 hown hK hP hD hS 0 rfl rfl 11 (by decide) (hts _ mx_X8_nextToken_4) (fun _ h9 => h9) rfl (by decide +kernel) rfl rfl (Nat.le_of_ble_eq_true rfl) dX8_nextToken_216 (fun H locs hP hD hS => ?_)
              have hP : va_P (dC, dI) vwCl [(xo_8_rrriirrriiiiiiirrirrrrri mo m_la m_sz m_it ms mt m_st m_mv m_tp (nI mz) ml (nI w_41) 1 v_105 (nI mp) mw m_rd m_ac (nI ma) m_as m_wo m_ik m_ke m_tr (nI mx)), (xI m_tp cI 120 ft_)] H := hP
              have hD := dto hP hD
              refine lv_aload_n hx hb dX8_nextToken_219 rfl (lv_at hl 0 rfl) ?_
              refine lv_dup hx hb dX8_nextToken_220 rfl ?_
              refine va_get (D := (dC, dI)) (ci := 8) (v := .int (nI w_41)) (C := RX8) (T := TX8) (N := 24) hx hb hts i_X8_nextToken_X8 hown hK hP 0 rfl rfl 10 (by decide) (hts _ mx_X8_nextToken_1) (fun _ h9 => h9) rfl dX8_nextToken_221 ?_
              refine lv_iconst (v := 1) hx hb dX8_nextToken_224 (by decide) ?_
              refine lv_iadd hx hb dX8_nextToken_225 ?_
              refine lv_topi (fun v_109 e_109 => ?_)
              obtain rfl : v_109 = (nI (w_41 + 1)) := (e_109).trans (nI_add w_41 1)
              refine va_put (D := (dC, dI)) (ci := 8) (v := .int (nI (w_41 + 1))) (ty := .int) (C := RX8) (T := TX8) (N := 24) hx hb hts i_X8_nextToken_X8 tyX8 tyX8_ok nmX8 hown hK hP hD hS 0 rfl rfl 10 (by decide) (hts _ mx_X8_nextToken_1) (fun _ h9 => h9) rfl (by decide +kernel) rfl rfl (Nat.le_of_ble_eq_true rfl) dX8_nextToken_226 (fun H locs hP hD hS => ?_)
              have hP : va_P (dC, dI) vwCl [(xo_8_rrriirrriiiiiiirrirrrrri mo m_la m_sz m_it ms mt m_st m_mv m_tp (nI mz) ml (nI (w_41 + 1)) 1 v_105 (nI mp) mw m_rd m_ac (nI ma) m_as m_wo m_ik m_ke m_tr (nI mx)), (xI m_tp cI 120 ft_)] H := hP
              have hD := dto hP hD
              have hX9 := cut2 (wc := [(xo_8_rrriirrriiiiiiirrirrrrri mo m_la m_sz m_it ms mt m_st m_mv m_tp (nI mz) ml (nI (w_41 + 1)) 1 v_105 (nI mp) mw m_rd m_ac (nI ma) m_as m_wo m_ik m_ke m_tr (nI mx)), (xI m_tp cI 120 ft_)]) hP hD [0, 1] (by decide +kernel) rfl
              exact W.vret hx hb hr (fun t ht hW => ⟨⟨(), rfl, trivial, ⟨1, v_105, (nI mp), (w_41 + 1), va_Ht ht hX9.1, hX9.2, (lf_X8_nextToken_13 hmp hmz c_1 haf_0 hnb_w_41 c_85 e_100 f_101_0_0 c_103 e_105 f_106_0_0 c_108), (lf_X8_nextToken_14 hmp hmz c_1 haf_0 hnb_w_41 c_85 e_100 f_101_0_0 c_103 e_105 f_106_0_0 c_108)⟩⟩, hS.F ht⟩) hS.2.2 dX8_nextToken_229
            · skip
              refine lv_aload_n hx hb dX8_nextToken_202 rfl (lv_at hl 0 rfl) ?_
              refine va_get (D := (dC, dI)) (ci := 8) (v := .int v_105) (C := RX8) (T := TX8) (N := 24) hx hb hts i_X8_nextToken_X8 hown hK hP 0 rfl rfl 12 (by decide) (hts _ mx_X8_nextToken_5) (fun _ h9 => h9) rfl dX8_nextToken_203 ?_
              refine lv_bipush (v := 59) hx hb dX8_nextToken_206 (by decide) ?_
              refine lv_icmp_ne (tgt := 215) hx hb dX8_nextToken_208 (by decide) (fun c_110 => ?_) (fun c_110 => ?_)
              · skip
                refine lv_iconst (v := 0) hx hb dX8_nextToken_215 (by decide) ?_
                refine va_put (D := (dC, dI)) (ci := 8) (v := .int 0) (ty := .int) (C := RX8) (T := TX8) (N := 24) hx hb hts i_X8_nextToken_X8 tyX8 tyX8_ok nmX8 hown hK hP hD hS 0 rfl rfl 11 (by decide) (hts _ mx_X8_nextToken_4) (fun _ h9 => h9) rfl (by decide +kernel) rfl rfl (Nat.le_of_ble_eq_true rfl) dX8_nextToken_216 (fun H locs hP hD hS => ?_)
                have hP : va_P (dC, dI) vwCl [(xo_8_rrriirrriiiiiiirrirrrrri mo m_la m_sz m_it ms mt m_st m_mv m_tp (nI mz) ml (nI w_41) 0 v_105 (nI mp) mw m_rd m_ac (nI ma) m_as m_wo m_ik m_ke m_tr (nI mx)), (xI m_tp cI 120 ft_)] H := hP
                have hD := dto hP hD
                refine lv_aload_n hx hb dX8_nextToken_219 rfl (lv_at hl 0 rfl) ?_
                refine lv_dup hx hb dX8_nextToken_220 rfl ?_
                refine va_get (D := (dC, dI)) (ci := 8) (v := .int (nI w_41)) (C := RX8) (T := TX8) (N := 24) hx hb hts i_X8_nextToken_X8 hown hK hP 0 rfl rfl 10 (by decide) (hts _ mx_X8_nextToken_1) (fun _ h9 => h9) rfl dX8_nextToken_221 ?_
                refine lv_iconst (v := 1) hx hb dX8_nextToken_224 (by decide) ?_
                refine lv_iadd hx hb dX8_nextToken_225 ?_
                refine lv_topi (fun v_111 e_111 => ?_)
                obtain rfl : v_111 = (nI (w_41 + 1)) := (e_111).trans (nI_add w_41 1)
                refine va_put (D := (dC, dI)) (ci := 8) (v := .int (nI (w_41 + 1))) (ty := .int) (C := RX8) (T := TX8) (N := 24) hx hb hts i_X8_nextToken_X8 tyX8 tyX8_ok nmX8 hown hK hP hD hS 0 rfl rfl 10 (by decide) (hts _ mx_X8_nextToken_1) (fun _ h9 => h9) rfl (by decide +kernel) rfl rfl (Nat.le_of_ble_eq_true rfl) dX8_nextToken_226 (fun H locs hP hD hS => ?_)
                have hP : va_P (dC, dI) vwCl [(xo_8_rrriirrriiiiiiirrirrrrri mo m_la m_sz m_it ms mt m_st m_mv m_tp (nI mz) ml (nI (w_41 + 1)) 0 v_105 (nI mp) mw m_rd m_ac (nI ma) m_as m_wo m_ik m_ke m_tr (nI mx)), (xI m_tp cI 120 ft_)] H := hP
                have hD := dto hP hD
                have hX9 := cut2 (wc := [(xo_8_rrriirrriiiiiiirrirrrrri mo m_la m_sz m_it ms mt m_st m_mv m_tp (nI mz) ml (nI (w_41 + 1)) 0 v_105 (nI mp) mw m_rd m_ac (nI ma) m_as m_wo m_ik m_ke m_tr (nI mx)), (xI m_tp cI 120 ft_)]) hP hD [0, 1] (by decide +kernel) rfl
                exact W.vret hx hb hr (fun t ht hW => ⟨⟨(), rfl, trivial, ⟨0, v_105, (nI mp), (w_41 + 1), va_Ht ht hX9.1, hX9.2, (lf_X8_nextToken_15 hmp hmz c_1 haf_0 hnb_w_41 c_85 e_100 f_101_0_0 c_103 e_105 f_106_0_0 c_108 c_110), (lf_X8_nextToken_16 hmp hmz c_1 haf_0 hnb_w_41 c_85 e_100 f_101_0_0 c_103 e_105 f_106_0_0 c_108 c_110)⟩⟩, hS.F ht⟩) hS.2.2 dX8_nextToken_229
              · skip
                refine lv_iconst (v := 1) hx hb dX8_nextToken_211 (by decide) ?_
                refine lv_goto (tgt := 216) hx hb dX8_nextToken_212 (by decide) ?_
                refine va_put (D := (dC, dI)) (ci := 8) (v := .int 1) (ty := .int) (C := RX8) (T := TX8) (N := 24) hx hb hts i_X8_nextToken_X8 tyX8 tyX8_ok nmX8 hown hK hP hD hS 0 rfl rfl 11 (by decide) (hts _ mx_X8_nextToken_4) (fun _ h9 => h9) rfl (by decide +kernel) rfl rfl (Nat.le_of_ble_eq_true rfl) dX8_nextToken_216 (fun H locs hP hD hS => ?_)
                have hP : va_P (dC, dI) vwCl [(xo_8_rrriirrriiiiiiirrirrrrri mo m_la m_sz m_it ms mt m_st m_mv m_tp (nI mz) ml (nI w_41) 1 v_105 (nI mp) mw m_rd m_ac (nI ma) m_as m_wo m_ik m_ke m_tr (nI mx)), (xI m_tp cI 120 ft_)] H := hP
                have hD := dto hP hD
                refine lv_aload_n hx hb dX8_nextToken_219 rfl (lv_at hl 0 rfl) ?_
                refine lv_dup hx hb dX8_nextToken_220 rfl ?_
                refine va_get (D := (dC, dI)) (ci := 8) (v := .int (nI w_41)) (C := RX8) (T := TX8) (N := 24) hx hb hts i_X8_nextToken_X8 hown hK hP 0 rfl rfl 10 (by decide) (hts _ mx_X8_nextToken_1) (fun _ h9 => h9) rfl dX8_nextToken_221 ?_
                refine lv_iconst (v := 1) hx hb dX8_nextToken_224 (by decide) ?_
                refine lv_iadd hx hb dX8_nextToken_225 ?_
                refine lv_topi (fun v_112 e_112 => ?_)
                obtain rfl : v_112 = (nI (w_41 + 1)) := (e_112).trans (nI_add w_41 1)
                refine va_put (D := (dC, dI)) (ci := 8) (v := .int (nI (w_41 + 1))) (ty := .int) (C := RX8) (T := TX8) (N := 24) hx hb hts i_X8_nextToken_X8 tyX8 tyX8_ok nmX8 hown hK hP hD hS 0 rfl rfl 10 (by decide) (hts _ mx_X8_nextToken_1) (fun _ h9 => h9) rfl (by decide +kernel) rfl rfl (Nat.le_of_ble_eq_true rfl) dX8_nextToken_226 (fun H locs hP hD hS => ?_)
                have hP : va_P (dC, dI) vwCl [(xo_8_rrriirrriiiiiiirrirrrrri mo m_la m_sz m_it ms mt m_st m_mv m_tp (nI mz) ml (nI (w_41 + 1)) 1 v_105 (nI mp) mw m_rd m_ac (nI ma) m_as m_wo m_ik m_ke m_tr (nI mx)), (xI m_tp cI 120 ft_)] H := hP
                have hD := dto hP hD
                have hX9 := cut2 (wc := [(xo_8_rrriirrriiiiiiirrirrrrri mo m_la m_sz m_it ms mt m_st m_mv m_tp (nI mz) ml (nI (w_41 + 1)) 1 v_105 (nI mp) mw m_rd m_ac (nI ma) m_as m_wo m_ik m_ke m_tr (nI mx)), (xI m_tp cI 120 ft_)]) hP hD [0, 1] (by decide +kernel) rfl
                exact W.vret hx hb hr (fun t ht hW => ⟨⟨(), rfl, trivial, ⟨1, v_105, (nI mp), (w_41 + 1), va_Ht ht hX9.1, hX9.2, (lf_X8_nextToken_17 hmp hmz c_1 haf_0 hnb_w_41 c_85 e_100 f_101_0_0 c_103 e_105 f_106_0_0 c_108 c_110), (lf_X8_nextToken_18 hmp hmz c_1 haf_0 hnb_w_41 c_85 e_100 f_101_0_0 c_103 e_105 f_106_0_0 c_108 c_110)⟩⟩, hS.F ht⟩) hS.2.2 dX8_nextToken_229
          · subst h_106
            refine lv_if_ne (tgt := 211) hx hb dX8_nextToken_190 (by decide) (fun _ => ?_) (fun c_ => absurd c_ (by decide))
            refine lv_iconst (v := 1) hx hb dX8_nextToken_211 (by decide) ?_
            refine lv_goto (tgt := 216) hx hb dX8_nextToken_212 (by decide) ?_
            refine va_put (D := (dC, dI)) (ci := 8) (v := .int 1) (ty := .int) (C := RX8) (T := TX8) (N := 24) hx hb hts i_X8_nextToken_X8 tyX8 tyX8_ok nmX8 hown hK hP hD hS 0 rfl rfl 11 (by decide) (hts _ mx_X8_nextToken_4) (fun _ h9 => h9) rfl (by decide +kernel) rfl rfl (Nat.le_of_ble_eq_true rfl) dX8_nextToken_216 (fun H locs hP hD hS => ?_)
            have hP : va_P (dC, dI) vwCl [(xo_8_rrriirrriiiiiiirrirrrrri mo m_la m_sz m_it ms mt m_st m_mv m_tp (nI mz) ml (nI w_41) 1 v_105 (nI mp) mw m_rd m_ac (nI ma) m_as m_wo m_ik m_ke m_tr (nI mx)), (xI m_tp cI 120 ft_)] H := hP
            have hD := dto hP hD
            refine lv_aload_n hx hb dX8_nextToken_219 rfl (lv_at hl 0 rfl) ?_
            refine lv_dup hx hb dX8_nextToken_220 rfl ?_
            refine va_get (D := (dC, dI)) (ci := 8) (v := .int (nI w_41)) (C := RX8) (T := TX8) (N := 24) hx hb hts i_X8_nextToken_X8 hown hK hP 0 rfl rfl 10 (by decide) (hts _ mx_X8_nextToken_1) (fun _ h9 => h9) rfl dX8_nextToken_221 ?_
            refine lv_iconst (v := 1) hx hb dX8_nextToken_224 (by decide) ?_
            refine lv_iadd hx hb dX8_nextToken_225 ?_
            refine lv_topi (fun v_114 e_114 => ?_)
            obtain rfl : v_114 = (nI (w_41 + 1)) := (e_114).trans (nI_add w_41 1)
            refine va_put (D := (dC, dI)) (ci := 8) (v := .int (nI (w_41 + 1))) (ty := .int) (C := RX8) (T := TX8) (N := 24) hx hb hts i_X8_nextToken_X8 tyX8 tyX8_ok nmX8 hown hK hP hD hS 0 rfl rfl 10 (by decide) (hts _ mx_X8_nextToken_1) (fun _ h9 => h9) rfl (by decide +kernel) rfl rfl (Nat.le_of_ble_eq_true rfl) dX8_nextToken_226 (fun H locs hP hD hS => ?_)
            have hP : va_P (dC, dI) vwCl [(xo_8_rrriirrriiiiiiirrirrrrri mo m_la m_sz m_it ms mt m_st m_mv m_tp (nI mz) ml (nI (w_41 + 1)) 1 v_105 (nI mp) mw m_rd m_ac (nI ma) m_as m_wo m_ik m_ke m_tr (nI mx)), (xI m_tp cI 120 ft_)] H := hP
            have hD := dto hP hD
            have hX9 := cut2 (wc := [(xo_8_rrriirrriiiiiiirrirrrrri mo m_la m_sz m_it ms mt m_st m_mv m_tp (nI mz) ml (nI (w_41 + 1)) 1 v_105 (nI mp) mw m_rd m_ac (nI ma) m_as m_wo m_ik m_ke m_tr (nI mx)), (xI m_tp cI 120 ft_)]) hP hD [0, 1] (by decide +kernel) rfl
            exact W.vret hx hb hr (fun t ht hW => ⟨⟨(), rfl, trivial, ⟨1, v_105, (nI mp), (w_41 + 1), va_Ht ht hX9.1, hX9.2, (lf_X8_nextToken_19 hmp hmz c_1 haf_0 hnb_w_41 c_85 e_100 f_101_0_0 c_103 e_105 f_106_1_0), (lf_X8_nextToken_20 hmp hmz c_1 haf_0 hnb_w_41 c_85 e_100 f_101_0_0 c_103 e_105 f_106_1_0)⟩⟩, hS.F ht⟩) hS.2.2 dX8_nextToken_229
        · have c_103 : ¬ (w_41 ≤ mp) := fun q_ => c_103 ((nI_leI (a := w_41) (b := mp) (by omega) (by omega)).mpr q_)
          refine lv_aload_n hx hb dX8_nextToken_130 rfl (lv_at hl 0 rfl) ?_
          refine lv_aload_n hx hb dX8_nextToken_131 rfl (lv_at hl 0 rfl) ?_
          refine va_get (D := (dC, dI)) (ci := 8) (v := .int (nI w_41)) (C := RX8) (T := TX8) (N := 24) hx hb hts i_X8_nextToken_X8 hown hK hP 0 rfl rfl 10 (by decide) (hts _ mx_X8_nextToken_1) (fun _ h9 => h9) rfl dX8_nextToken_132 ?_
          refine lv_aload_n hx hb dX8_nextToken_135 rfl (lv_at hl 0 rfl) ?_
          refine va_get (D := (dC, dI)) (ci := 8) (v := .int (nI mp)) (C := RX8) (T := TX8) (N := 24) hx hb hts i_X8_nextToken_X8 hown hK hP 0 rfl rfl 13 (by decide) (hts _ mx_X8_nextToken_2) (fun _ h9 => h9) rfl dX8_nextToken_136 ?_
          refine lv_isub hx hb dX8_nextToken_139 ?_
          refine lv_topi (fun v_115 e_115 => ?_)
          obtain rfl : v_115 = (nI (w_41 - mp)) := (e_115).trans (pk_sub (a := w_41) (b := mp) (by omega))
          refine lv_iconst (v := 2) hx hb dX8_nextToken_140 (by decide) ?_
          refine lv_icmp_le (tgt := 148) hx hb dX8_nextToken_141 (by decide) (fun c_116 => ?_) (fun c_116 => ?_)
          · have c_116 : (w_41 - mp) ≤ 2 := (nI_leI (a := (w_41 - mp)) (b := 2) (by omega) (by omega)).mp c_116
            refine lv_iconst (v := 2) hx hb dX8_nextToken_148 (by decide) ?_
            refine va_put (D := (dC, dI)) (ci := 8) (v := .int 2) (ty := .int) (C := RX8) (T := TX8) (N := 24) hx hb hts i_X8_nextToken_X8 tyX8 tyX8_ok nmX8 hown hK hP hD hS 0 rfl rfl 11 (by decide) (hts _ mx_X8_nextToken_4) (fun _ h9 => h9) rfl (by decide +kernel) rfl rfl (Nat.le_of_ble_eq_true rfl) dX8_nextToken_149 (fun H locs hP hD hS => ?_)
            have hP : va_P (dC, dI) vwCl [(xo_8_rrriirrriiiiiiirrirrrrri mo m_la m_sz m_it ms mt m_st m_mv m_tp (nI mz) ml (nI w_41) 2 w_42 (nI mp) mw m_rd m_ac (nI ma) m_as m_wo m_ik m_ke m_tr (nI mx)), (xI m_tp cI 120 ft_)] H := hP
            have hD := dto hP hD
            refine lv_goto (tgt := 229) hx hb dX8_nextToken_152 (by decide) ?_
            have hX9 := cut2 (wc := [(xo_8_rrriirrriiiiiiirrirrrrri mo m_la m_sz m_it ms mt m_st m_mv m_tp (nI mz) ml (nI w_41) 2 w_42 (nI mp) mw m_rd m_ac (nI ma) m_as m_wo m_ik m_ke m_tr (nI mx)), (xI m_tp cI 120 ft_)]) hP hD [0, 1] (by decide +kernel) rfl
            exact W.vret hx hb hr (fun t ht hW => ⟨⟨(), rfl, trivial, ⟨2, w_42, (nI mp), w_41, va_Ht ht hX9.1, hX9.2, (lf_X8_nextToken_21 hmp hmz c_1 haf_0 hnb_w_41 c_85 e_100 f_101_0_0 c_103 c_116), (lf_X8_nextToken_22 hmp hmz c_1 haf_0 hnb_w_41 c_85 e_100 f_101_0_0 c_103 c_116)⟩⟩, hS.F ht⟩) hS.2.2 dX8_nextToken_229
          · have c_116 : ¬ ((w_41 - mp) ≤ 2) := fun q_ => c_116 ((nI_leI (a := (w_41 - mp)) (b := 2) (by omega) (by omega)).mpr q_)
            refine lv_iconst (v := 0) hx hb dX8_nextToken_144 (by decide) ?_
            refine lv_goto (tgt := 149) hx hb dX8_nextToken_145 (by decide) ?_
            refine va_put (D := (dC, dI)) (ci := 8) (v := .int 0) (ty := .int) (C := RX8) (T := TX8) (N := 24) hx hb hts i_X8_nextToken_X8 tyX8 tyX8_ok nmX8 hown hK hP hD hS 0 rfl rfl 11 (by decide) (hts _ mx_X8_nextToken_4) (fun _ h9 => h9) rfl (by decide +kernel) rfl rfl (Nat.le_of_ble_eq_true rfl) dX8_nextToken_149 (fun H locs hP hD hS => ?_)
            have hP : va_P (dC, dI) vwCl [(xo_8_rrriirrriiiiiiirrirrrrri mo m_la m_sz m_it ms mt m_st m_mv m_tp (nI mz) ml (nI w_41) 0 w_42 (nI mp) mw m_rd m_ac (nI ma) m_as m_wo m_ik m_ke m_tr (nI mx)), (xI m_tp cI 120 ft_)] H := hP
            have hD := dto hP hD
            refine lv_goto (tgt := 229) hx hb dX8_nextToken_152 (by decide) ?_
            have hX9 := cut2 (wc := [(xo_8_rrriirrriiiiiiirrirrrrri mo m_la m_sz m_it ms mt m_st m_mv m_tp (nI mz) ml (nI w_41) 0 w_42 (nI mp) mw m_rd m_ac (nI ma) m_as m_wo m_ik m_ke m_tr (nI mx)), (xI m_tp cI 120 ft_)]) hP hD [0, 1] (by decide +kernel) rfl
            exact W.vret hx hb hr (fun t ht hW => ⟨⟨(), rfl, trivial, ⟨0, w_42, (nI mp), w_41, va_Ht ht hX9.1, hX9.2, (lf_X8_nextToken_23 hmp hmz c_1 haf_0 hnb_w_41 c_85 e_100 f_101_0_0 c_103 c_116), (lf_X8_nextToken_24 hmp hmz c_1 haf_0 hnb_w_41 c_85 e_100 f_101_0_0 c_103 c_116)⟩⟩, hS.F ht⟩) hS.2.2 dX8_nextToken_229
      · subst h_101
        refine lv_if_eq (tgt := 119) hx hb dX8_nextToken_63 (by decide) (fun c_ => absurd c_ (by decide)) (fun _ => ?_)
        refine lv_aload_n hx hb dX8_nextToken_66 rfl (lv_at hl 0 rfl) ?_
        refine lv_aload_n hx hb dX8_nextToken_67 rfl (lv_at hl 0 rfl) ?_
        refine va_get (D := (dC, dI)) (ci := 8) (v := .int w_42) (C := RX8) (T := TX8) (N := 24) hx hb hts i_X8_nextToken_X8 hown hK hP 0 rfl rfl 12 (by decide) (hts _ mx_X8_nextToken_5) (fun _ h9 => h9) rfl dX8_nextToken_68 ?_
        refine lv_bipush (v := 99) hx hb dX8_nextToken_71 (by decide) ?_
        refine lv_icmp_le (tgt := 83) hx hb dX8_nextToken_73 (by decide) (fun c_118 => ?_) (fun c_118 => ?_)
        · skip
          refine lv_bipush (v := 10) hx hb dX8_nextToken_83 (by decide) ?_
          refine lv_aload_n hx hb dX8_nextToken_85 rfl (lv_at hl 0 rfl) ?_
          refine va_get (D := (dC, dI)) (ci := 8) (v := .int w_42) (C := RX8) (T := TX8) (N := 24) hx hb hts i_X8_nextToken_X8 hown hK hP 0 rfl rfl 12 (by decide) (hts _ mx_X8_nextToken_5) (fun _ h9 => h9) rfl dX8_nextToken_86 ?_
          refine lv_imul hx hb dX8_nextToken_89 ?_
          refine lv_topi (fun v_119 e_119 => ?_)
          refine lv_aload_n hx hb dX8_nextToken_90 rfl (lv_at hl 0 rfl) ?_
          refine va_get (D := (dC, dI)) (ci := 8) (v := .ref m_tp) (C := RX8) (T := TX8) (N := 24) hx hb hts i_X8_nextToken_X8 hown hK hP 0 rfl rfl 7 (by decide) (hts _ mx_X8_nextToken_6) (fun _ h9 => h9) rfl dX8_nextToken_91 ?_
          refine lv_aload_n hx hb dX8_nextToken_94 rfl (lv_at hl 0 rfl) ?_
          refine va_get (D := (dC, dI)) (ci := 8) (v := .int (nI w_41)) (C := RX8) (T := TX8) (N := 24) hx hb hts i_X8_nextToken_X8 hown hK hP 0 rfl rfl 10 (by decide) (hts _ mx_X8_nextToken_1) (fun _ h9 => h9) rfl dX8_nextToken_95 ?_
          refine va_iald hx hb hK hP 1 0 rfl rfl (vp_in_nI (by omega) (by omega)) dX8_nextToken_98 ?_
          refine lv_topi (fun v_120 e_120 => ?_)
          have e_120 : v_120 = ft_ w_41 := e_120.trans (congrArg ft_ (nI_clamp (by omega)))
          refine lv_iadd hx hb dX8_nextToken_99 ?_
          refine lv_topi (fun v_121 e_121 => ?_)
          refine lv_bipush (v := 48) hx hb dX8_nextToken_100 (by decide) ?_
          refine lv_isub hx hb dX8_nextToken_102 ?_
          refine lv_topi (fun v_122 e_122 => ?_)
          refine va_put (D := (dC, dI)) (ci := 8) (v := .int v_122) (ty := .int) (C := RX8) (T := TX8) (N := 24) hx hb hts i_X8_nextToken_X8 tyX8 tyX8_ok nmX8 hown hK hP hD hS 0 rfl rfl 12 (by decide) (hts _ mx_X8_nextToken_5) (fun _ h9 => h9) rfl (by decide +kernel) rfl rfl (Nat.le_of_ble_eq_true rfl) dX8_nextToken_103 (fun H locs hP hD hS => ?_)
          have hP : va_P (dC, dI) vwCl [(xo_8_rrriirrriiiiiiirrirrrrri mo m_la m_sz m_it ms mt m_st m_mv m_tp (nI mz) ml (nI w_41) 0 v_122 (nI mp) mw m_rd m_ac (nI ma) m_as m_wo m_ik m_ke m_tr (nI mx)), (xI m_tp cI 120 ft_)] H := hP
          have hD := dto hP hD
          refine lv_aload_n hx hb dX8_nextToken_106 rfl (lv_at hl 0 rfl) ?_
          refine lv_dup hx hb dX8_nextToken_107 rfl ?_
          refine va_get (D := (dC, dI)) (ci := 8) (v := .int (nI w_41)) (C := RX8) (T := TX8) (N := 24) hx hb hts i_X8_nextToken_X8 hown hK hP 0 rfl rfl 10 (by decide) (hts _ mx_X8_nextToken_1) (fun _ h9 => h9) rfl dX8_nextToken_108 ?_
          refine lv_iconst (v := 1) hx hb dX8_nextToken_111 (by decide) ?_
          refine lv_iadd hx hb dX8_nextToken_112 ?_
          refine lv_topi (fun v_123 e_123 => ?_)
          obtain rfl : v_123 = (nI (w_41 + 1)) := (e_123).trans (nI_add w_41 1)
          refine va_put (D := (dC, dI)) (ci := 8) (v := .int (nI (w_41 + 1))) (ty := .int) (C := RX8) (T := TX8) (N := 24) hx hb hts i_X8_nextToken_X8 tyX8 tyX8_ok nmX8 hown hK hP hD hS 0 rfl rfl 10 (by decide) (hts _ mx_X8_nextToken_1) (fun _ h9 => h9) rfl (by decide +kernel) rfl rfl (Nat.le_of_ble_eq_true rfl) dX8_nextToken_113 (fun H locs hP hD hS => ?_)
          have hP : va_P (dC, dI) vwCl [(xo_8_rrriirrriiiiiiirrirrrrri mo m_la m_sz m_it ms mt m_st m_mv m_tp (nI mz) ml (nI (w_41 + 1)) 0 v_122 (nI mp) mw m_rd m_ac (nI ma) m_as m_wo m_ik m_ke m_tr (nI mx)), (xI m_tp cI 120 ft_)] H := hP
          have hD := dto hP hD
          refine lv_goto (tgt := 33) hx hb dX8_nextToken_116 (by decide) ?_
          exact ih ((w_41 + 1), v_122) _ _ _ (by show mz - (w_41 + 1) < mz - w_41; omega) ⟨lv_sub hl [0] rfl, hP.sub (ws' := [(xo_8_rrriirrriiiiiiirrirrrrri mo m_la m_sz m_it ms mt m_st m_mv m_tp (nI mz) ml (nI (w_41 + 1)) 0 v_122 (nI mp) mw m_rd m_ac (nI ma) m_as m_wo m_ik m_ke m_tr (nI mx)), (xI m_tp cI 120 ft_)]) [0, 1] rfl, hD.sub (ws' := [(xo_8_rrriirrriiiiiiirrirrrrri mo m_la m_sz m_it ms mt m_st m_mv m_tp (nI mz) ml (nI (w_41 + 1)) 0 v_122 (nI mp) mw m_rd m_ac (nI ma) m_as m_wo m_ik m_ke m_tr (nI mx)), (xI m_tp cI 120 ft_)]) [0, 1] (by decide +kernel) rfl, hS, (lf_X8_nextToken_25 hmp hmz c_1 haf_0 hnb_w_41 c_85 e_100 f_101_1_0 c_118 e_119 e_120 e_121 e_122), (by omega)⟩
        · skip
          refine lv_aload_n hx hb dX8_nextToken_76 rfl (lv_at hl 0 rfl) ?_
          refine va_get (D := (dC, dI)) (ci := 8) (v := .int w_42) (C := RX8) (T := TX8) (N := 24) hx hb hts i_X8_nextToken_X8 hown hK hP 0 rfl rfl 12 (by decide) (hts _ mx_X8_nextToken_5) (fun _ h9 => h9) rfl dX8_nextToken_77 ?_
          refine lv_goto (tgt := 103) hx hb dX8_nextToken_80 (by decide) ?_
          refine va_put (D := (dC, dI)) (ci := 8) (v := .int w_42) (ty := .int) (C := RX8) (T := TX8) (N := 24) hx hb hts i_X8_nextToken_X8 tyX8 tyX8_ok nmX8 hown hK hP hD hS 0 rfl rfl 12 (by decide) (hts _ mx_X8_nextToken_5) (fun _ h9 => h9) rfl (by decide +kernel) rfl rfl (Nat.le_of_ble_eq_true rfl) dX8_nextToken_103 (fun H locs hP hD hS => ?_)
          have hP : va_P (dC, dI) vwCl [(xo_8_rrriirrriiiiiiirrirrrrri mo m_la m_sz m_it ms mt m_st m_mv m_tp (nI mz) ml (nI w_41) 0 w_42 (nI mp) mw m_rd m_ac (nI ma) m_as m_wo m_ik m_ke m_tr (nI mx)), (xI m_tp cI 120 ft_)] H := hP
          have hD := dto hP hD
          refine lv_aload_n hx hb dX8_nextToken_106 rfl (lv_at hl 0 rfl) ?_
          refine lv_dup hx hb dX8_nextToken_107 rfl ?_
          refine va_get (D := (dC, dI)) (ci := 8) (v := .int (nI w_41)) (C := RX8) (T := TX8) (N := 24) hx hb hts i_X8_nextToken_X8 hown hK hP 0 rfl rfl 10 (by decide) (hts _ mx_X8_nextToken_1) (fun _ h9 => h9) rfl dX8_nextToken_108 ?_
          refine lv_iconst (v := 1) hx hb dX8_nextToken_111 (by decide) ?_
          refine lv_iadd hx hb dX8_nextToken_112 ?_
          refine lv_topi (fun v_124 e_124 => ?_)
          obtain rfl : v_124 = (nI (w_41 + 1)) := (e_124).trans (nI_add w_41 1)
          refine va_put (D := (dC, dI)) (ci := 8) (v := .int (nI (w_41 + 1))) (ty := .int) (C := RX8) (T := TX8) (N := 24) hx hb hts i_X8_nextToken_X8 tyX8 tyX8_ok nmX8 hown hK hP hD hS 0 rfl rfl 10 (by decide) (hts _ mx_X8_nextToken_1) (fun _ h9 => h9) rfl (by decide +kernel) rfl rfl (Nat.le_of_ble_eq_true rfl) dX8_nextToken_113 (fun H locs hP hD hS => ?_)
          have hP : va_P (dC, dI) vwCl [(xo_8_rrriirrriiiiiiirrirrrrri mo m_la m_sz m_it ms mt m_st m_mv m_tp (nI mz) ml (nI (w_41 + 1)) 0 w_42 (nI mp) mw m_rd m_ac (nI ma) m_as m_wo m_ik m_ke m_tr (nI mx)), (xI m_tp cI 120 ft_)] H := hP
          have hD := dto hP hD
          refine lv_goto (tgt := 33) hx hb dX8_nextToken_116 (by decide) ?_
          exact ih ((w_41 + 1), w_42) _ _ _ (by show mz - (w_41 + 1) < mz - w_41; omega) ⟨lv_sub hl [0] rfl, hP.sub (ws' := [(xo_8_rrriirrriiiiiiirrirrrrri mo m_la m_sz m_it ms mt m_st m_mv m_tp (nI mz) ml (nI (w_41 + 1)) 0 w_42 (nI mp) mw m_rd m_ac (nI ma) m_as m_wo m_ik m_ke m_tr (nI mx)), (xI m_tp cI 120 ft_)]) [0, 1] rfl, hD.sub (ws' := [(xo_8_rrriirrriiiiiiirrirrrrri mo m_la m_sz m_it ms mt m_st m_mv m_tp (nI mz) ml (nI (w_41 + 1)) 0 w_42 (nI mp) mw m_rd m_ac (nI ma) m_as m_wo m_ik m_ke m_tr (nI mx)), (xI m_tp cI 120 ft_)]) [0, 1] (by decide +kernel) rfl, hS, (lf_X8_nextToken_26 hmp hmz c_1 haf_0 hnb_w_41 c_85 e_100 f_101_1_0 c_118), (by omega)⟩
  · have c_1 : mp = mz := (nI_eq (a := mp) (b := mz) (by omega) (by omega)).mp c_1
    refine lv_iconst (v := 3) hx hb dX8_nextToken_20 (by decide) ?_
    refine lv_goto (tgt := 25) hx hb dX8_nextToken_21 (by decide) ?_
    refine va_put (D := (dC, dI)) (ci := 8) (v := .int 3) (ty := .int) (C := RX8) (T := TX8) (N := 24) hx hb hts i_X8_nextToken_X8 tyX8 tyX8_ok nmX8 hown hK hP hD hS 0 rfl rfl 11 (by decide) (hts _ mx_X8_nextToken_4) (fun _ h9 => h9) rfl (by decide +kernel) rfl rfl (Nat.le_of_ble_eq_true rfl) dX8_nextToken_25 (fun H locs hP hD hS => ?_)
    have hP : va_P (dC, dI) vwCl [(xo_8_rrriirrriiiiiiirrirrrrri mo m_la m_sz m_it ms mt m_st m_mv m_tp (nI mz) ml (nI mp) 3 mv (nI mp) mw m_rd m_ac (nI ma) m_as m_wo m_ik m_ke m_tr (nI mx)), (xI m_tp cI 120 ft_)] H := hP
    have hD := dto hP hD
    refine lv_aload_n hx hb dX8_nextToken_28 rfl (lv_at hl 0 rfl) ?_
    refine lv_iconst (v := 0) hx hb dX8_nextToken_29 (by decide) ?_
    refine va_put (D := (dC, dI)) (ci := 8) (v := .int 0) (ty := .int) (C := RX8) (T := TX8) (N := 24) hx hb hts i_X8_nextToken_X8 tyX8 tyX8_ok nmX8 hown hK hP hD hS 0 rfl rfl 12 (by decide) (hts _ mx_X8_nextToken_5) (fun _ h9 => h9) rfl (by decide +kernel) rfl rfl (Nat.le_of_ble_eq_true rfl) dX8_nextToken_30 (fun H locs hP hD hS => ?_)
    have hP : va_P (dC, dI) vwCl [(xo_8_rrriirrriiiiiiirrirrrrri mo m_la m_sz m_it ms mt m_st m_mv m_tp (nI mz) ml (nI mp) 3 0 (nI mp) mw m_rd m_ac (nI ma) m_as m_wo m_ik m_ke m_tr (nI mx)), (xI m_tp cI 120 ft_)] H := hP
    have hD := dto hP hD
    refine lp_ms (σ := (Nat) × (Int32)) (fun (st : (Nat) × (Int32)) H locs ls => match st with | (w_144, w_145) => lv_has ls 1 [(0, .ref mo)] ∧ va_P (dC, dI) vwCl [(xo_8_rrriirrriiiiiiirrirrrrri mo m_la m_sz m_it ms mt m_st m_mv m_tp (nI mz) ml (nI w_144) 3 w_145 (nI mp) mw m_rd m_ac (nI ma) m_as m_wo m_ik m_ke m_tr (nI mx)), (xI m_tp cI 120 ft_)] H ∧ va_D A [(xo_8_rrriirrriiiiiiirrirrrrri mo m_la m_sz m_it ms mt m_st m_mv m_tp (nI mz) ml (nI w_144) 3 w_145 (nI mp) mw m_rd m_ac (nI ma) m_as m_wo m_ik m_ke m_tr (nI mx)), (xI m_tp cI 120 ft_)] ∧ va_S A s.heap H locs ∧ (dgM ft_ mz (mz - w_144) w_145 w_144 = dgM ft_ mz (mz - mp) 0 mp) ∧ (mp ≤ w_144 ∧ w_144 ≤ mz)) (fun (st : (Nat) × (Int32)) => match st with | (w_144, w_145) => mz - w_144) ?_ (mp, 0) ⟨lv_sub hl [0] rfl, hP.sub (ws' := [(xo_8_rrriirrriiiiiiirrirrrrri mo m_la m_sz m_it ms mt m_st m_mv m_tp (nI mz) ml (nI mp) 3 0 (nI mp) mw m_rd m_ac (nI ma) m_as m_wo m_ik m_ke m_tr (nI mx)), (xI m_tp cI 120 ft_)]) [0, 1] rfl, hD.sub (ws' := [(xo_8_rrriirrriiiiiiirrirrrrri mo m_la m_sz m_it ms mt m_st m_mv m_tp (nI mz) ml (nI mp) 3 0 (nI mp) mw m_rd m_ac (nI ma) m_as m_wo m_ik m_ke m_tr (nI mx)), (xI m_tp cI 120 ft_)]) [0, 1] (by decide +kernel) rfl, hS, rfl, (by omega)⟩
    rintro ⟨w_144, w_145⟩ H locs ls ⟨hl, hP, hD, hS, haf_0, hnb_w_144⟩ ih
    refine lv_aload_n hx hb dX8_nextToken_33 rfl (lv_at hl 0 rfl) ?_
    refine va_get (D := (dC, dI)) (ci := 8) (v := .int (nI w_144)) (C := RX8) (T := TX8) (N := 24) hx hb hts i_X8_nextToken_X8 hown hK hP 0 rfl rfl 10 (by decide) (hts _ mx_X8_nextToken_1) (fun _ h9 => h9) rfl dX8_nextToken_34 ?_
    refine lv_aload_n hx hb dX8_nextToken_37 rfl (lv_at hl 0 rfl) ?_
    refine va_get (D := (dC, dI)) (ci := 8) (v := .int (nI mz)) (C := RX8) (T := TX8) (N := 24) hx hb hts i_X8_nextToken_X8 hown hK hP 0 rfl rfl 8 (by decide) (hts _ mx_X8_nextToken_3) (fun _ h9 => h9) rfl dX8_nextToken_38 ?_
    refine lv_icmp_ge (tgt := 119) hx hb dX8_nextToken_41 (by decide) (fun c_168 => ?_) (fun c_168 => ?_)
    · have c_168 : mz ≤ w_144 := (nI_leI (a := mz) (b := w_144) (by omega) (by omega)).mp c_168
      refine lv_aload_n hx hb dX8_nextToken_119 rfl (lv_at hl 0 rfl) ?_
      refine va_get (D := (dC, dI)) (ci := 8) (v := .int (nI w_144)) (C := RX8) (T := TX8) (N := 24) hx hb hts i_X8_nextToken_X8 hown hK hP 0 rfl rfl 10 (by decide) (hts _ mx_X8_nextToken_1) (fun _ h9 => h9) rfl dX8_nextToken_120 ?_
      refine lv_aload_n hx hb dX8_nextToken_123 rfl (lv_at hl 0 rfl) ?_
      refine va_get (D := (dC, dI)) (ci := 8) (v := .int (nI mp)) (C := RX8) (T := TX8) (N := 24) hx hb hts i_X8_nextToken_X8 hown hK hP 0 rfl rfl 13 (by decide) (hts _ mx_X8_nextToken_2) (fun _ h9 => h9) rfl dX8_nextToken_124 ?_
      refine lv_icmp_le (tgt := 155) hx hb dX8_nextToken_127 (by decide) (fun c_169 => ?_) (fun c_169 => ?_)
      · have c_169 : w_144 ≤ mp := (nI_leI (a := w_144) (b := mp) (by omega) (by omega)).mp c_169
        refine lv_aload_n hx hb dX8_nextToken_155 rfl (lv_at hl 0 rfl) ?_
        refine va_get (D := (dC, dI)) (ci := 8) (v := .int 3) (C := RX8) (T := TX8) (N := 24) hx hb hts i_X8_nextToken_X8 hown hK hP 0 rfl rfl 11 (by decide) (hts _ mx_X8_nextToken_4) (fun _ h9 => h9) rfl dX8_nextToken_156 ?_
        refine lv_if_ne (tgt := 229) hx hb dX8_nextToken_159 (by decide) (fun _ => ?_) (fun c_ => absurd c_ (by decide))
        have hX9 := cut2 (wc := [(xo_8_rrriirrriiiiiiirrirrrrri mo m_la m_sz m_it ms mt m_st m_mv m_tp (nI mz) ml (nI w_144) 3 w_145 (nI mp) mw m_rd m_ac (nI ma) m_as m_wo m_ik m_ke m_tr (nI mx)), (xI m_tp cI 120 ft_)]) hP hD [0, 1] (by decide +kernel) rfl
        exact W.vret hx hb hr (fun t ht hW => ⟨⟨(), rfl, trivial, ⟨3, w_145, (nI mp), w_144, va_Ht ht hX9.1, hX9.2, (lf_X8_nextToken_27 hmp hmz c_1 haf_0 hnb_w_144 c_168 c_169), (lf_X8_nextToken_28 hmp hmz c_1 haf_0 hnb_w_144 c_168 c_169)⟩⟩, hS.F ht⟩) hS.2.2 dX8_nextToken_229
      · have c_169 : ¬ (w_144 ≤ mp) := fun q_ => c_169 ((nI_leI (a := w_144) (b := mp) (by omega) (by omega)).mpr q_)
        refine lv_aload_n hx hb dX8_nextToken_130 rfl (lv_at hl 0 rfl) ?_
        refine lv_aload_n hx hb dX8_nextToken_131 rfl (lv_at hl 0 rfl) ?_
        refine va_get (D := (dC, dI)) (ci := 8) (v := .int (nI w_144)) (C := RX8) (T := TX8) (N := 24) hx hb hts i_X8_nextToken_X8 hown hK hP 0 rfl rfl 10 (by decide) (hts _ mx_X8_nextToken_1) (fun _ h9 => h9) rfl dX8_nextToken_132 ?_
        refine lv_aload_n hx hb dX8_nextToken_135 rfl (lv_at hl 0 rfl) ?_
        refine va_get (D := (dC, dI)) (ci := 8) (v := .int (nI mp)) (C := RX8) (T := TX8) (N := 24) hx hb hts i_X8_nextToken_X8 hown hK hP 0 rfl rfl 13 (by decide) (hts _ mx_X8_nextToken_2) (fun _ h9 => h9) rfl dX8_nextToken_136 ?_
        refine lv_isub hx hb dX8_nextToken_139 ?_
        refine lv_topi (fun v_171 e_171 => ?_)
        obtain rfl : v_171 = (nI (w_144 - mp)) := (e_171).trans (pk_sub (a := w_144) (b := mp) (by omega))
        refine lv_iconst (v := 2) hx hb dX8_nextToken_140 (by decide) ?_
        refine lv_icmp_le (tgt := 148) hx hb dX8_nextToken_141 (by decide) (fun c_172 => ?_) (fun c_172 => ?_)
        · have c_172 : (w_144 - mp) ≤ 2 := (nI_leI (a := (w_144 - mp)) (b := 2) (by omega) (by omega)).mp c_172
          refine lv_iconst (v := 2) hx hb dX8_nextToken_148 (by decide) ?_
          refine va_put (D := (dC, dI)) (ci := 8) (v := .int 2) (ty := .int) (C := RX8) (T := TX8) (N := 24) hx hb hts i_X8_nextToken_X8 tyX8 tyX8_ok nmX8 hown hK hP hD hS 0 rfl rfl 11 (by decide) (hts _ mx_X8_nextToken_4) (fun _ h9 => h9) rfl (by decide +kernel) rfl rfl (Nat.le_of_ble_eq_true rfl) dX8_nextToken_149 (fun H locs hP hD hS => ?_)
          have hP : va_P (dC, dI) vwCl [(xo_8_rrriirrriiiiiiirrirrrrri mo m_la m_sz m_it ms mt m_st m_mv m_tp (nI mz) ml (nI w_144) 2 w_145 (nI mp) mw m_rd m_ac (nI ma) m_as m_wo m_ik m_ke m_tr (nI mx)), (xI m_tp cI 120 ft_)] H := hP
          have hD := dto hP hD
          refine lv_goto (tgt := 229) hx hb dX8_nextToken_152 (by decide) ?_
          have hX9 := cut2 (wc := [(xo_8_rrriirrriiiiiiirrirrrrri mo m_la m_sz m_it ms mt m_st m_mv m_tp (nI mz) ml (nI w_144) 2 w_145 (nI mp) mw m_rd m_ac (nI ma) m_as m_wo m_ik m_ke m_tr (nI mx)), (xI m_tp cI 120 ft_)]) hP hD [0, 1] (by decide +kernel) rfl
          exact W.vret hx hb hr (fun t ht hW => ⟨⟨(), rfl, trivial, ⟨2, w_145, (nI mp), w_144, va_Ht ht hX9.1, hX9.2, (lf_X8_nextToken_29 hmp hmz c_1 haf_0 hnb_w_144 c_168 c_169 c_172), (lf_X8_nextToken_30 hmp hmz c_1 haf_0 hnb_w_144 c_168 c_169 c_172)⟩⟩, hS.F ht⟩) hS.2.2 dX8_nextToken_229
        · have c_172 : ¬ ((w_144 - mp) ≤ 2) := fun q_ => c_172 ((nI_leI (a := (w_144 - mp)) (b := 2) (by omega) (by omega)).mpr q_)
          refine lv_iconst (v := 0) hx hb dX8_nextToken_144 (by decide) ?_
          refine lv_goto (tgt := 149) hx hb dX8_nextToken_145 (by decide) ?_
          refine va_put (D := (dC, dI)) (ci := 8) (v := .int 0) (ty := .int) (C := RX8) (T := TX8) (N := 24) hx hb hts i_X8_nextToken_X8 tyX8 tyX8_ok nmX8 hown hK hP hD hS 0 rfl rfl 11 (by decide) (hts _ mx_X8_nextToken_4) (fun _ h9 => h9) rfl (by decide +kernel) rfl rfl (Nat.le_of_ble_eq_true rfl) dX8_nextToken_149 (fun H locs hP hD hS => ?_)
          have hP : va_P (dC, dI) vwCl [(xo_8_rrriirrriiiiiiirrirrrrri mo m_la m_sz m_it ms mt m_st m_mv m_tp (nI mz) ml (nI w_144) 0 w_145 (nI mp) mw m_rd m_ac (nI ma) m_as m_wo m_ik m_ke m_tr (nI mx)), (xI m_tp cI 120 ft_)] H := hP
          have hD := dto hP hD
          refine lv_goto (tgt := 229) hx hb dX8_nextToken_152 (by decide) ?_
          have hX9 := cut2 (wc := [(xo_8_rrriirrriiiiiiirrirrrrri mo m_la m_sz m_it ms mt m_st m_mv m_tp (nI mz) ml (nI w_144) 0 w_145 (nI mp) mw m_rd m_ac (nI ma) m_as m_wo m_ik m_ke m_tr (nI mx)), (xI m_tp cI 120 ft_)]) hP hD [0, 1] (by decide +kernel) rfl
          exact W.vret hx hb hr (fun t ht hW => ⟨⟨(), rfl, trivial, ⟨0, w_145, (nI mp), w_144, va_Ht ht hX9.1, hX9.2, (lf_X8_nextToken_31 hmp hmz c_1 haf_0 hnb_w_144 c_168 c_169 c_172), (lf_X8_nextToken_32 hmp hmz c_1 haf_0 hnb_w_144 c_168 c_169 c_172)⟩⟩, hS.F ht⟩) hS.2.2 dX8_nextToken_229
    · have c_168 : ¬ (mz ≤ w_144) := fun q_ => c_168 ((nI_leI (a := mz) (b := w_144) (by omega) (by omega)).mpr q_)
      refine lv_aload_n hx hb dX8_nextToken_44 rfl (lv_at hl 0 rfl) ?_
      refine va_get (D := (dC, dI)) (ci := 8) (v := .ref m_tp) (C := RX8) (T := TX8) (N := 24) hx hb hts i_X8_nextToken_X8 hown hK hP 0 rfl rfl 7 (by decide) (hts _ mx_X8_nextToken_6) (fun _ h9 => h9) rfl dX8_nextToken_45 ?_
      refine lv_aload_n hx hb dX8_nextToken_48 rfl (lv_at hl 0 rfl) ?_
      refine va_get (D := (dC, dI)) (ci := 8) (v := .int (nI w_144)) (C := RX8) (T := TX8) (N := 24) hx hb hts i_X8_nextToken_X8 hown hK hP 0 rfl rfl 10 (by decide) (hts _ mx_X8_nextToken_1) (fun _ h9 => h9) rfl dX8_nextToken_49 ?_
      refine va_iald hx hb hK hP 1 0 rfl rfl (vp_in_nI (by omega) (by omega)) dX8_nextToken_52 ?_
      refine lv_topi (fun v_173 e_173 => ?_)
      have e_173 : v_173 = ft_ w_144 := e_173.trans (congrArg ft_ (nI_clamp (by omega)))
      refine lv_i2l hx hb dX8_nextToken_53 rfl ?_
      refine lv_ldc2 (own := RX8) (v := 48) hx hb hown (hts _ mx_X8_nextToken_7) dX8_nextToken_54 ?_
      refine lv_ldc2 (own := RX8) (v := 57) hx hb hown (hts _ mx_X8_nextToken_8) dX8_nextToken_57 ?_
      have hPc_174 := hP.sub (ws' := []) [] rfl
      refine vp_callSi (W.runS (As := [.long (v_173).toInt64, .long 48, .long 57]) (rest := []) ⟨hx, hb, hml, hown, hts⟩ (r_X8_in l dC dI cI cZ cL cJ ((v_173).toInt64) 48 57 ) (va_cwS 3 hts gX8_nextToken_X8_in rfl rfl rfl (by decide +kernel) ⟨Nat.le_of_ble_eq_true rfl, Nat.le_of_ble_eq_true rfl⟩) (psP hK hPc_174) rfl rfl hl.1 rfl (lv_room (Nat.le_of_ble_eq_true rfl)) dX8_nextToken_60 ⟨Nat.le_of_ble_eq_true rfl, Nat.le_of_ble_eq_true rfl⟩) (fun r_174 h_174 => ?_)
      rcases h_174 with ⟨h_174, f_174_0_0⟩ | ⟨h_174, f_174_1_0⟩
      · subst h_174
        refine lv_if_eq (tgt := 119) hx hb dX8_nextToken_63 (by decide) (fun _ => ?_) (fun c_ => absurd (by decide) c_)
        refine lv_aload_n hx hb dX8_nextToken_119 rfl (lv_at hl 0 rfl) ?_
        refine va_get (D := (dC, dI)) (ci := 8) (v := .int (nI w_144)) (C := RX8) (T := TX8) (N := 24) hx hb hts i_X8_nextToken_X8 hown hK hP 0 rfl rfl 10 (by decide) (hts _ mx_X8_nextToken_1) (fun _ h9 => h9) rfl dX8_nextToken_120 ?_
        refine lv_aload_n hx hb dX8_nextToken_123 rfl (lv_at hl 0 rfl) ?_
        refine va_get (D := (dC, dI)) (ci := 8) (v := .int (nI mp)) (C := RX8) (T := TX8) (N := 24) hx hb hts i_X8_nextToken_X8 hown hK hP 0 rfl rfl 13 (by decide) (hts _ mx_X8_nextToken_2) (fun _ h9 => h9) rfl dX8_nextToken_124 ?_
        refine lv_icmp_le (tgt := 155) hx hb dX8_nextToken_127 (by decide) (fun c_176 => ?_) (fun c_176 => ?_)
        · have c_176 : w_144 ≤ mp := (nI_leI (a := w_144) (b := mp) (by omega) (by omega)).mp c_176
          refine lv_aload_n hx hb dX8_nextToken_155 rfl (lv_at hl 0 rfl) ?_
          refine va_get (D := (dC, dI)) (ci := 8) (v := .int 3) (C := RX8) (T := TX8) (N := 24) hx hb hts i_X8_nextToken_X8 hown hK hP 0 rfl rfl 11 (by decide) (hts _ mx_X8_nextToken_4) (fun _ h9 => h9) rfl dX8_nextToken_156 ?_
          refine lv_if_ne (tgt := 229) hx hb dX8_nextToken_159 (by decide) (fun _ => ?_) (fun c_ => absurd c_ (by decide))
          have hX9 := cut2 (wc := [(xo_8_rrriirrriiiiiiirrirrrrri mo m_la m_sz m_it ms mt m_st m_mv m_tp (nI mz) ml (nI w_144) 3 w_145 (nI mp) mw m_rd m_ac (nI ma) m_as m_wo m_ik m_ke m_tr (nI mx)), (xI m_tp cI 120 ft_)]) hP hD [0, 1] (by decide +kernel) rfl
          exact W.vret hx hb hr (fun t ht hW => ⟨⟨(), rfl, trivial, ⟨3, w_145, (nI mp), w_144, va_Ht ht hX9.1, hX9.2, (lf_X8_nextToken_33 hmp hmz c_1 haf_0 hnb_w_144 c_168 e_173 f_174_0_0 c_176), (lf_X8_nextToken_34 hmp hmz c_1 haf_0 hnb_w_144 c_168 e_173 f_174_0_0 c_176)⟩⟩, hS.F ht⟩) hS.2.2 dX8_nextToken_229
        · have c_176 : ¬ (w_144 ≤ mp) := fun q_ => c_176 ((nI_leI (a := w_144) (b := mp) (by omega) (by omega)).mpr q_)
          refine lv_aload_n hx hb dX8_nextToken_130 rfl (lv_at hl 0 rfl) ?_
          refine lv_aload_n hx hb dX8_nextToken_131 rfl (lv_at hl 0 rfl) ?_
          refine va_get (D := (dC, dI)) (ci := 8) (v := .int (nI w_144)) (C := RX8) (T := TX8) (N := 24) hx hb hts i_X8_nextToken_X8 hown hK hP 0 rfl rfl 10 (by decide) (hts _ mx_X8_nextToken_1) (fun _ h9 => h9) rfl dX8_nextToken_132 ?_
          refine lv_aload_n hx hb dX8_nextToken_135 rfl (lv_at hl 0 rfl) ?_
          refine va_get (D := (dC, dI)) (ci := 8) (v := .int (nI mp)) (C := RX8) (T := TX8) (N := 24) hx hb hts i_X8_nextToken_X8 hown hK hP 0 rfl rfl 13 (by decide) (hts _ mx_X8_nextToken_2) (fun _ h9 => h9) rfl dX8_nextToken_136 ?_
          refine lv_isub hx hb dX8_nextToken_139 ?_
          refine lv_topi (fun v_178 e_178 => ?_)
          obtain rfl : v_178 = (nI (w_144 - mp)) := (e_178).trans (pk_sub (a := w_144) (b := mp) (by omega))
          refine lv_iconst (v := 2) hx hb dX8_nextToken_140 (by decide) ?_
          refine lv_icmp_le (tgt := 148) hx hb dX8_nextToken_141 (by decide) (fun c_179 => ?_) (fun c_179 => ?_)
          · have c_179 : (w_144 - mp) ≤ 2 := (nI_leI (a := (w_144 - mp)) (b := 2) (by omega) (by omega)).mp c_179
            refine lv_iconst (v := 2) hx hb dX8_nextToken_148 (by decide) ?_
            refine va_put (D := (dC, dI)) (ci := 8) (v := .int 2) (ty := .int) (C := RX8) (T := TX8) (N := 24) hx hb hts i_X8_nextToken_X8 tyX8 tyX8_ok nmX8 hown hK hP hD hS 0 rfl rfl 11 (by decide) (hts _ mx_X8_nextToken_4) (fun _ h9 => h9) rfl (by decide +kernel) rfl rfl (Nat.le_of_ble_eq_true rfl) dX8_nextToken_149 (fun H locs hP hD hS => ?_)
            have hP : va_P (dC, dI) vwCl [(xo_8_rrriirrriiiiiiirrirrrrri mo m_la m_sz m_it ms mt m_st m_mv m_tp (nI mz) ml (nI w_144) 2 w_145 (nI mp) mw m_rd m_ac (nI ma) m_as m_wo m_ik m_ke m_tr (nI mx)), (xI m_tp cI 120 ft_)] H := hP
            have hD := dto hP hD
            refine lv_goto (tgt := 229) hx hb dX8_nextToken_152 (by decide) ?_
            have hX9 := cut2 (wc := [(xo_8_rrriirrriiiiiiirrirrrrri mo m_la m_sz m_it ms mt m_st m_mv m_tp (nI mz) ml (nI w_144) 2 w_145 (nI mp) mw m_rd m_ac (nI ma) m_as m_wo m_ik m_ke m_tr (nI mx)), (xI m_tp cI 120 ft_)]) hP hD [0, 1] (by decide +kernel) rfl
            exact W.vret hx hb hr (fun t ht hW => ⟨⟨(), rfl, trivial, ⟨2, w_145, (nI mp), w_144, va_Ht ht hX9.1, hX9.2, (lf_X8_nextToken_35 hmp hmz c_1 haf_0 hnb_w_144 c_168 e_173 f_174_0_0 c_176 c_179), (lf_X8_nextToken_36 hmp hmz c_1 haf_0 hnb_w_144 c_168 e_173 f_174_0_0 c_176 c_179)⟩⟩, hS.F ht⟩) hS.2.2 dX8_nextToken_229
          · have c_179 : ¬ ((w_144 - mp) ≤ 2) := fun q_ => c_179 ((nI_leI (a := (w_144 - mp)) (b := 2) (by omega) (by omega)).mpr q_)
            refine lv_iconst (v := 0) hx hb dX8_nextToken_144 (by decide) ?_
            refine lv_goto (tgt := 149) hx hb dX8_nextToken_145 (by decide) ?_
            refine va_put (D := (dC, dI)) (ci := 8) (v := .int 0) (ty := .int) (C := RX8) (T := TX8) (N := 24) hx hb hts i_X8_nextToken_X8 tyX8 tyX8_ok nmX8 hown hK hP hD hS 0 rfl rfl 11 (by decide) (hts _ mx_X8_nextToken_4) (fun _ h9 => h9) rfl (by decide +kernel) rfl rfl (Nat.le_of_ble_eq_true rfl) dX8_nextToken_149 (fun H locs hP hD hS => ?_)
            have hP : va_P (dC, dI) vwCl [(xo_8_rrriirrriiiiiiirrirrrrri mo m_la m_sz m_it ms mt m_st m_mv m_tp (nI mz) ml (nI w_144) 0 w_145 (nI mp) mw m_rd m_ac (nI ma) m_as m_wo m_ik m_ke m_tr (nI mx)), (xI m_tp cI 120 ft_)] H := hP
            have hD := dto hP hD
            refine lv_goto (tgt := 229) hx hb dX8_nextToken_152 (by decide) ?_
            have hX9 := cut2 (wc := [(xo_8_rrriirrriiiiiiirrirrrrri mo m_la m_sz m_it ms mt m_st m_mv m_tp (nI mz) ml (nI w_144) 0 w_145 (nI mp) mw m_rd m_ac (nI ma) m_as m_wo m_ik m_ke m_tr (nI mx)), (xI m_tp cI 120 ft_)]) hP hD [0, 1] (by decide +kernel) rfl
            exact W.vret hx hb hr (fun t ht hW => ⟨⟨(), rfl, trivial, ⟨0, w_145, (nI mp), w_144, va_Ht ht hX9.1, hX9.2, (lf_X8_nextToken_37 hmp hmz c_1 haf_0 hnb_w_144 c_168 e_173 f_174_0_0 c_176 c_179), (lf_X8_nextToken_38 hmp hmz c_1 haf_0 hnb_w_144 c_168 e_173 f_174_0_0 c_176 c_179)⟩⟩, hS.F ht⟩) hS.2.2 dX8_nextToken_229
      · subst h_174
        refine lv_if_eq (tgt := 119) hx hb dX8_nextToken_63 (by decide) (fun c_ => absurd c_ (by decide)) (fun _ => ?_)
        refine lv_aload_n hx hb dX8_nextToken_66 rfl (lv_at hl 0 rfl) ?_
        refine lv_aload_n hx hb dX8_nextToken_67 rfl (lv_at hl 0 rfl) ?_
        refine va_get (D := (dC, dI)) (ci := 8) (v := .int w_145) (C := RX8) (T := TX8) (N := 24) hx hb hts i_X8_nextToken_X8 hown hK hP 0 rfl rfl 12 (by decide) (hts _ mx_X8_nextToken_5) (fun _ h9 => h9) rfl dX8_nextToken_68 ?_
        refine lv_bipush (v := 99) hx hb dX8_nextToken_71 (by decide) ?_
        refine lv_icmp_le (tgt := 83) hx hb dX8_nextToken_73 (by decide) (fun c_181 => ?_) (fun c_181 => ?_)
        · skip
          refine lv_bipush (v := 10) hx hb dX8_nextToken_83 (by decide) ?_
          refine lv_aload_n hx hb dX8_nextToken_85 rfl (lv_at hl 0 rfl) ?_
          refine va_get (D := (dC, dI)) (ci := 8) (v := .int w_145) (C := RX8) (T := TX8) (N := 24) hx hb hts i_X8_nextToken_X8 hown hK hP 0 rfl rfl 12 (by decide) (hts _ mx_X8_nextToken_5) (fun _ h9 => h9) rfl dX8_nextToken_86 ?_
          refine lv_imul hx hb dX8_nextToken_89 ?_
          refine lv_topi (fun v_182 e_182 => ?_)
          refine lv_aload_n hx hb dX8_nextToken_90 rfl (lv_at hl 0 rfl) ?_
          refine va_get (D := (dC, dI)) (ci := 8) (v := .ref m_tp) (C := RX8) (T := TX8) (N := 24) hx hb hts i_X8_nextToken_X8 hown hK hP 0 rfl rfl 7 (by decide) (hts _ mx_X8_nextToken_6) (fun _ h9 => h9) rfl dX8_nextToken_91 ?_
          refine lv_aload_n hx hb dX8_nextToken_94 rfl (lv_at hl 0 rfl) ?_
          refine va_get (D := (dC, dI)) (ci := 8) (v := .int (nI w_144)) (C := RX8) (T := TX8) (N := 24) hx hb hts i_X8_nextToken_X8 hown hK hP 0 rfl rfl 10 (by decide) (hts _ mx_X8_nextToken_1) (fun _ h9 => h9) rfl dX8_nextToken_95 ?_
          refine va_iald hx hb hK hP 1 0 rfl rfl (vp_in_nI (by omega) (by omega)) dX8_nextToken_98 ?_
          refine lv_topi (fun v_183 e_183 => ?_)
          have e_183 : v_183 = ft_ w_144 := e_183.trans (congrArg ft_ (nI_clamp (by omega)))
          refine lv_iadd hx hb dX8_nextToken_99 ?_
          refine lv_topi (fun v_184 e_184 => ?_)
          refine lv_bipush (v := 48) hx hb dX8_nextToken_100 (by decide) ?_
          refine lv_isub hx hb dX8_nextToken_102 ?_
          refine lv_topi (fun v_185 e_185 => ?_)
          refine va_put (D := (dC, dI)) (ci := 8) (v := .int v_185) (ty := .int) (C := RX8) (T := TX8) (N := 24) hx hb hts i_X8_nextToken_X8 tyX8 tyX8_ok nmX8 hown hK hP hD hS 0 rfl rfl 12 (by decide) (hts _ mx_X8_nextToken_5) (fun _ h9 => h9) rfl (by decide +kernel) rfl rfl (Nat.le_of_ble_eq_true rfl) dX8_nextToken_103 (fun H locs hP hD hS => ?_)
          have hP : va_P (dC, dI) vwCl [(xo_8_rrriirrriiiiiiirrirrrrri mo m_la m_sz m_it ms mt m_st m_mv m_tp (nI mz) ml (nI w_144) 3 v_185 (nI mp) mw m_rd m_ac (nI ma) m_as m_wo m_ik m_ke m_tr (nI mx)), (xI m_tp cI 120 ft_)] H := hP
          have hD := dto hP hD
          refine lv_aload_n hx hb dX8_nextToken_106 rfl (lv_at hl 0 rfl) ?_
          refine lv_dup hx hb dX8_nextToken_107 rfl ?_
          refine va_get (D := (dC, dI)) (ci := 8) (v := .int (nI w_144)) (C := RX8) (T := TX8) (N := 24) hx hb hts i_X8_nextToken_X8 hown hK hP 0 rfl rfl 10 (by decide) (hts _ mx_X8_nextToken_1) (fun _ h9 => h9) rfl dX8_nextToken_108 ?_
          refine lv_iconst (v := 1) hx hb dX8_nextToken_111 (by decide) ?_
          refine lv_iadd hx hb dX8_nextToken_112 ?_
          refine lv_topi (fun v_186 e_186 => ?_)
          obtain rfl : v_186 = (nI (w_144 + 1)) := (e_186).trans (nI_add w_144 1)
          refine va_put (D := (dC, dI)) (ci := 8) (v := .int (nI (w_144 + 1))) (ty := .int) (C := RX8) (T := TX8) (N := 24) hx hb hts i_X8_nextToken_X8 tyX8 tyX8_ok nmX8 hown hK hP hD hS 0 rfl rfl 10 (by decide) (hts _ mx_X8_nextToken_1) (fun _ h9 => h9) rfl (by decide +kernel) rfl rfl (Nat.le_of_ble_eq_true rfl) dX8_nextToken_113 (fun H locs hP hD hS => ?_)
          have hP : va_P (dC, dI) vwCl [(xo_8_rrriirrriiiiiiirrirrrrri mo m_la m_sz m_it ms mt m_st m_mv m_tp (nI mz) ml (nI (w_144 + 1)) 3 v_185 (nI mp) mw m_rd m_ac (nI ma) m_as m_wo m_ik m_ke m_tr (nI mx)), (xI m_tp cI 120 ft_)] H := hP
          have hD := dto hP hD
          refine lv_goto (tgt := 33) hx hb dX8_nextToken_116 (by decide) ?_
          exact ih ((w_144 + 1), v_185) _ _ _ (by show mz - (w_144 + 1) < mz - w_144; omega) ⟨lv_sub hl [0] rfl, hP.sub (ws' := [(xo_8_rrriirrriiiiiiirrirrrrri mo m_la m_sz m_it ms mt m_st m_mv m_tp (nI mz) ml (nI (w_144 + 1)) 3 v_185 (nI mp) mw m_rd m_ac (nI ma) m_as m_wo m_ik m_ke m_tr (nI mx)), (xI m_tp cI 120 ft_)]) [0, 1] rfl, hD.sub (ws' := [(xo_8_rrriirrriiiiiiirrirrrrri mo m_la m_sz m_it ms mt m_st m_mv m_tp (nI mz) ml (nI (w_144 + 1)) 3 v_185 (nI mp) mw m_rd m_ac (nI ma) m_as m_wo m_ik m_ke m_tr (nI mx)), (xI m_tp cI 120 ft_)]) [0, 1] (by decide +kernel) rfl, hS, (lf_X8_nextToken_39 hmp hmz c_1 haf_0 hnb_w_144 c_168 e_173 f_174_1_0 c_181 e_182 e_183 e_184 e_185), (by omega)⟩
        · skip
          refine lv_aload_n hx hb dX8_nextToken_76 rfl (lv_at hl 0 rfl) ?_
          refine va_get (D := (dC, dI)) (ci := 8) (v := .int w_145) (C := RX8) (T := TX8) (N := 24) hx hb hts i_X8_nextToken_X8 hown hK hP 0 rfl rfl 12 (by decide) (hts _ mx_X8_nextToken_5) (fun _ h9 => h9) rfl dX8_nextToken_77 ?_
          refine lv_goto (tgt := 103) hx hb dX8_nextToken_80 (by decide) ?_
          refine va_put (D := (dC, dI)) (ci := 8) (v := .int w_145) (ty := .int) (C := RX8) (T := TX8) (N := 24) hx hb hts i_X8_nextToken_X8 tyX8 tyX8_ok nmX8 hown hK hP hD hS 0 rfl rfl 12 (by decide) (hts _ mx_X8_nextToken_5) (fun _ h9 => h9) rfl (by decide +kernel) rfl rfl (Nat.le_of_ble_eq_true rfl) dX8_nextToken_103 (fun H locs hP hD hS => ?_)
          have hP : va_P (dC, dI) vwCl [(xo_8_rrriirrriiiiiiirrirrrrri mo m_la m_sz m_it ms mt m_st m_mv m_tp (nI mz) ml (nI w_144) 3 w_145 (nI mp) mw m_rd m_ac (nI ma) m_as m_wo m_ik m_ke m_tr (nI mx)), (xI m_tp cI 120 ft_)] H := hP
          have hD := dto hP hD
          refine lv_aload_n hx hb dX8_nextToken_106 rfl (lv_at hl 0 rfl) ?_
          refine lv_dup hx hb dX8_nextToken_107 rfl ?_
          refine va_get (D := (dC, dI)) (ci := 8) (v := .int (nI w_144)) (C := RX8) (T := TX8) (N := 24) hx hb hts i_X8_nextToken_X8 hown hK hP 0 rfl rfl 10 (by decide) (hts _ mx_X8_nextToken_1) (fun _ h9 => h9) rfl dX8_nextToken_108 ?_
          refine lv_iconst (v := 1) hx hb dX8_nextToken_111 (by decide) ?_
          refine lv_iadd hx hb dX8_nextToken_112 ?_
          refine lv_topi (fun v_187 e_187 => ?_)
          obtain rfl : v_187 = (nI (w_144 + 1)) := (e_187).trans (nI_add w_144 1)
          refine va_put (D := (dC, dI)) (ci := 8) (v := .int (nI (w_144 + 1))) (ty := .int) (C := RX8) (T := TX8) (N := 24) hx hb hts i_X8_nextToken_X8 tyX8 tyX8_ok nmX8 hown hK hP hD hS 0 rfl rfl 10 (by decide) (hts _ mx_X8_nextToken_1) (fun _ h9 => h9) rfl (by decide +kernel) rfl rfl (Nat.le_of_ble_eq_true rfl) dX8_nextToken_113 (fun H locs hP hD hS => ?_)
          have hP : va_P (dC, dI) vwCl [(xo_8_rrriirrriiiiiiirrirrrrri mo m_la m_sz m_it ms mt m_st m_mv m_tp (nI mz) ml (nI (w_144 + 1)) 3 w_145 (nI mp) mw m_rd m_ac (nI ma) m_as m_wo m_ik m_ke m_tr (nI mx)), (xI m_tp cI 120 ft_)] H := hP
          have hD := dto hP hD
          refine lv_goto (tgt := 33) hx hb dX8_nextToken_116 (by decide) ?_
          exact ih ((w_144 + 1), w_145) _ _ _ (by show mz - (w_144 + 1) < mz - w_144; omega) ⟨lv_sub hl [0] rfl, hP.sub (ws' := [(xo_8_rrriirrriiiiiiirrirrrrri mo m_la m_sz m_it ms mt m_st m_mv m_tp (nI mz) ml (nI (w_144 + 1)) 3 w_145 (nI mp) mw m_rd m_ac (nI ma) m_as m_wo m_ik m_ke m_tr (nI mx)), (xI m_tp cI 120 ft_)]) [0, 1] rfl, hD.sub (ws' := [(xo_8_rrriirrriiiiiiirrirrrrri mo m_la m_sz m_it ms mt m_st m_mv m_tp (nI mz) ml (nI (w_144 + 1)) 3 w_145 (nI mp) mw m_rd m_ac (nI ma) m_as m_wo m_ik m_ke m_tr (nI mx)), (xI m_tp cI 120 ft_)]) [0, 1] (by decide +kernel) rfl, hS, (lf_X8_nextToken_40 hmp hmz c_1 haf_0 hnb_w_144 c_168 e_173 f_174_1_0 c_181), (by omega)⟩
theorem lf_X8_faults_1 {n : Int32}  : n = n := by
  rfl
set_option maxHeartbeats 4000000 in
set_option maxRecDepth 100000 in
theorem r_X8_faults (l : Launch) (dC : Nat → ClassId) (dI : Nat → Nat → Nat) (cI cZ cL cJ : ClassId) (sz : Nat) (mo : Nat) (m_la : Nat) (m_sz : Nat) (m_it : Nat) (m_st : Nat) (m_mv : Nat) (m_tp : Nat) (m_rd : Nat) (m_ac : Nat) (m_as : Nat) (m_wo : Nat) (m_ik : Nat) (m_ke : Nat) (m_tr : Nat) (ms : Int32) (mt : Int32) (ml : Int32) (mk : Int32) (mv : Int32) (mb : Int32) (mw : Int32) (mz : Nat) (mp : Nat) (ma : Nat) (mx : Nat) (n : Int32)  : Met l yX8_faults wsX8_faults ({ frames := 0, cells := 0, slots := 0, locals := 0 }) (va_Pc [.ref mo, .int n] (fun U => U.heap.size = sz ∧ va_P (dC, dI) vwCl [(xo_8_rrriirrriiiiiiirrirrrrri mo m_la m_sz m_it ms mt m_st m_mv m_tp (nI mz) ml (nI mp) mk mv mb mw m_rd m_ac (nI ma) m_as m_wo m_ik m_ke m_tr (nI mx))] U.heap ∧ va_K (dC, dI) vwCl [(cI, .int), (cZ, .boolean), (cL, .object RX3), (cJ, .array .int)] U ∧ va_D (fun _ => True) [(xo_8_rrriirrriiiiiiirrirrrrri mo m_la m_sz m_it ms mt m_st m_mv m_tp (nI mz) ml (nI mp) mk mv mb mw m_rd m_ac (nI ma) m_as m_wo m_ik m_ke m_tr (nI mx))])) (va_Qi (fun r (_ : Unit) => r = 0) (fun (_ : Unit) t => ∃ (mwn : Int32), va_P (dC, dI) vwCl [(xo_8_rrriirrriiiiiiirrirrrrri mo m_la m_sz m_it ms mt m_st m_mv m_tp (nI mz) ml (nI mp) mk mv mb mwn m_rd m_ac (nI ma) m_as m_wo m_ik m_ke m_tr (nI mx))] t.heap ∧ va_D (va_A [(xo_8_rrriirrriiiiiiirrirrrrri mo m_la m_sz m_it ms mt m_st m_mv m_tp (nI mz) ml (nI mp) mk mv mb mw m_rd m_ac (nI ma) m_as m_wo m_ik m_ke m_tr (nI mx))] sz) [(xo_8_rrriirrriiiiiiirrirrrrri mo m_la m_sz m_it ms mt m_st m_mv m_tp (nI mz) ml (nI mp) mk mv mb mwn m_rd m_ac (nI ma) m_as m_wo m_ik m_ke m_tr (nI mx))] ∧ mwn = n) (va_A [(xo_8_rrriirrriiiiiiirrirrrrri mo m_la m_sz m_it ms mt m_st m_mv m_tp (nI mz) ml (nI mp) mk mv mb mw m_rd m_ac (nI ma) m_as m_wo m_ik m_ke m_tr (nI mx))] sz)) 0 0 (va_A [(xo_8_rrriirrriiiiiiirrirrrrri mo m_la m_sz m_it ms mt m_st m_mv m_tp (nI mz) ml (nI mp) mk mv mb mw m_rd m_ac (nI ma) m_as m_wo m_ik m_ke m_tr (nI mx))] sz) := by
  refine Met.ofW (cc := cX8_faults) (maxL := 2) (ret := (some .boolean)) (by decide) rfl ?_
  intro p e s m args below meth c s₁ B hml hv
  obtain ⟨rfl, hsz, hP, hK, hD0⟩ := hv
  have hx := B.exec
  have hb := B.bytes
  have hr := B.returns
  have hts := atoms_spec (ws := wsX8_faults) B.pre
  have hown : s.vm.findClass RX8 = some m.cls := findClass_of_methodNamed B.named
  have hlocks := B.notSynchronized
  subst hsz
  have hD := hD0.self (sz := s.heap.size)
  generalize hAe : va_A [(xo_8_rrriirrriiiiiiirrirrrrri mo m_la m_sz m_it ms mt m_st m_mv m_tp (nI mz) ml (nI mp) mk mv mb mw m_rd m_ac (nI ma) m_as m_wo m_ik m_ke m_tr (nI mx))] s.heap.size = A at hD ⊢
  have hA : ∀ q : Nat, s.heap.size ≤ q → A q := fun q h => by rw [← hAe]; exact Or.inr h
  have hS : va_S A s.heap s.heap [] := va_S.rf
  have hP : va_P (dC, dI) vwCl [(xo_8_rrriirrriiiiiiirrirrrrri mo m_la m_sz m_it ms mt m_st m_mv m_tp (nI mz) ml (nI mp) mk mv mb mw m_rd m_ac (nI ma) m_as m_wo m_ik m_ke m_tr (nI mx))] s.heap := hP
  have hl := lv_entry ([.ref mo, .int n]) (n := 2) (Nat.le_of_ble_eq_true rfl)
  rw [lg_entry_eq]
  generalize (lg_sl ([.ref mo, .int n]) ++ List.replicate (2 - (lg_sl ([.ref mo, .int n])).length) Slot.unset).toArray = ls at hl ⊢
  have hl : lv_has ls 2 [(0, .ref mo), (1, .int n)] := hl
  refine lv_aload_n hx hb dX8_faults_0 rfl (lv_at hl 0 rfl) ?_
  refine lv_iload_n hx hb dX8_faults_1 rfl (lv_at hl 1 rfl) ?_
  refine va_put (D := (dC, dI)) (ci := 8) (v := .int n) (ty := .int) (C := RX8) (T := TX8) (N := 24) hx hb hts i_X8_faults_X8 tyX8 tyX8_ok nmX8 hown hK hP hD hS 0 rfl rfl 14 (by decide) (hts _ mx_X8_faults_1) (fun _ h9 => h9) rfl (by decide +kernel) rfl rfl (Nat.le_of_ble_eq_true rfl) dX8_faults_2 (fun H locs hP hD hS => ?_)
  have hP : va_P (dC, dI) vwCl [(xo_8_rrriirrriiiiiiirrirrrrri mo m_la m_sz m_it ms mt m_st m_mv m_tp (nI mz) ml (nI mp) mk mv mb n m_rd m_ac (nI ma) m_as m_wo m_ik m_ke m_tr (nI mx))] H := hP
  have hD := dto hP hD
  refine lv_iconst (v := 0) hx hb dX8_faults_5 (by decide) ?_
  have hX9 := cut2 (wc := [(xo_8_rrriirrriiiiiiirrirrrrri mo m_la m_sz m_it ms mt m_st m_mv m_tp (nI mz) ml (nI mp) mk mv mb n m_rd m_ac (nI ma) m_as m_wo m_ik m_ke m_tr (nI mx))]) hP hD [0] (by decide +kernel) rfl
  exact W.zret (v := 0) hx hb hr (by decide) (fun t ht hW => ⟨⟨0, (), rfl, rfl, ⟨n, va_Ht ht hX9.1, hX9.2, lf_X8_faults_1⟩⟩, hS.F ht⟩) hS.2.2 dX8_faults_6
theorem lf_X8_takes_1 {mk : Int32} {mz : Nat} {mp : Nat} {mwn_2 : Int32} (hmp : mp ≤ mz) (hmz : mz ≤ 120) (c_1 : ¬ (mk = 1)) (hF_2_0 : mwn_2 = 1) : mp ≤ mz := by
  first | omega | (simp only [kU, uT, kG]; grind)
theorem lf_X8_takes_2 {mk : Int32} {mv : Int32} {mb : Int32} {mz : Nat} {mp : Nat} {ft_ : Nat → Int32} {n : Int32} {mwn_2 : Int32} (hmp : mp ≤ mz) (hmz : mz ≤ 120) (c_1 : ¬ (mk = 1)) (hF_2_0 : mwn_2 = 1) : kU ft_ mz n (mk, mv, mb, mp) = (mk, mv, mb, mp) := by
  first | omega | (simp only [kU, uT, kG]; grind)
theorem lf_X8_takes_3 {mk : Int32} {mv : Int32} {mb : Int32} {mz : Nat} {mp : Nat} {n : Int32} {mwn_2 : Int32} (hmp : mp ≤ mz) (hmz : mz ≤ 120) (c_1 : ¬ (mk = 1)) (hF_2_0 : mwn_2 = 1) : (¬ kG n (mk, mv, mb, mp) → mwn_2 = 1) := by
  first | omega | (simp only [kU, uT, kG]; grind)
theorem lf_X8_takes_4 {mk : Int32} {mv : Int32} {mb : Int32} {mz : Nat} {mp : Nat} {n : Int32} {mwn_2 : Int32} (hmp : mp ≤ mz) (hmz : mz ≤ 120) (c_1 : ¬ (mk = 1)) (hF_2_0 : mwn_2 = 1) : ¬ kG n (mk, mv, mb, mp) := by
  first | omega | (simp only [kU, uT, kG]; grind)
theorem lf_X8_takes_5 {mk : Int32} {mv : Int32} {mz : Nat} {mp : Nat} {ft_ : Nat → Int32} {n : Int32} {mkn_4 : Int32} {mvn_4 : Int32} {mbn_4 : Int32} {mpn_4 : Nat} (hmp : mp ≤ mz) (hmz : mz ≤ 120) (c_1 : mk = 1) (c_3 : mv = n) (hF_4_0 : mpn_4 ≤ mz) (hF_4_1 : nT ft_ mz mp = (mkn_4, mvn_4, mbn_4, mpn_4)) : mpn_4 ≤ mz := by
  first | omega | (simp only [kU, uT, kG]; grind)
theorem lf_X8_takes_6 {mk : Int32} {mv : Int32} {mb : Int32} {mz : Nat} {mp : Nat} {ft_ : Nat → Int32} {n : Int32} {mkn_4 : Int32} {mvn_4 : Int32} {mbn_4 : Int32} {mpn_4 : Nat} (hmp : mp ≤ mz) (hmz : mz ≤ 120) (c_1 : mk = 1) (c_3 : mv = n) (hF_4_0 : mpn_4 ≤ mz) (hF_4_1 : nT ft_ mz mp = (mkn_4, mvn_4, mbn_4, mpn_4)) : kU ft_ mz n (mk, mv, mb, mp) = (mkn_4, mvn_4, mbn_4, mpn_4) := by
  first | omega | (simp only [kU, uT, kG]; grind)
theorem lf_X8_takes_7 {mk : Int32} {mv : Int32} {mb : Int32} {mw : Int32} {mz : Nat} {mp : Nat} {ft_ : Nat → Int32} {n : Int32} {mkn_4 : Int32} {mvn_4 : Int32} {mbn_4 : Int32} {mpn_4 : Nat} (hmp : mp ≤ mz) (hmz : mz ≤ 120) (c_1 : mk = 1) (c_3 : mv = n) (hF_4_0 : mpn_4 ≤ mz) (hF_4_1 : nT ft_ mz mp = (mkn_4, mvn_4, mbn_4, mpn_4)) : (¬ kG n (mk, mv, mb, mp) → mw = 1) := by
  first | omega | (simp only [kU, uT, kG]; grind)
theorem lf_X8_takes_8 {mk : Int32} {mv : Int32} {mb : Int32} {mz : Nat} {mp : Nat} {ft_ : Nat → Int32} {n : Int32} {mkn_4 : Int32} {mvn_4 : Int32} {mbn_4 : Int32} {mpn_4 : Nat} (hmp : mp ≤ mz) (hmz : mz ≤ 120) (c_1 : mk = 1) (c_3 : mv = n) (hF_4_0 : mpn_4 ≤ mz) (hF_4_1 : nT ft_ mz mp = (mkn_4, mvn_4, mbn_4, mpn_4)) : kG n (mk, mv, mb, mp) := by
  first | omega | (simp only [kU, uT, kG]; grind)
theorem lf_X8_takes_9 {mk : Int32} {mv : Int32} {mz : Nat} {mp : Nat} {n : Int32} {mwn_5 : Int32} (hmp : mp ≤ mz) (hmz : mz ≤ 120) (c_1 : mk = 1) (c_3 : ¬ (mv = n)) (hF_5_0 : mwn_5 = 1) : mp ≤ mz := by
  first | omega | (simp only [kU, uT, kG]; grind)
theorem lf_X8_takes_10 {mk : Int32} {mv : Int32} {mb : Int32} {mz : Nat} {mp : Nat} {ft_ : Nat → Int32} {n : Int32} {mwn_5 : Int32} (hmp : mp ≤ mz) (hmz : mz ≤ 120) (c_1 : mk = 1) (c_3 : ¬ (mv = n)) (hF_5_0 : mwn_5 = 1) : kU ft_ mz n (mk, mv, mb, mp) = (mk, mv, mb, mp) := by
  first | omega | (simp only [kU, uT, kG]; grind)
theorem lf_X8_takes_11 {mk : Int32} {mv : Int32} {mb : Int32} {mz : Nat} {mp : Nat} {n : Int32} {mwn_5 : Int32} (hmp : mp ≤ mz) (hmz : mz ≤ 120) (c_1 : mk = 1) (c_3 : ¬ (mv = n)) (hF_5_0 : mwn_5 = 1) : (¬ kG n (mk, mv, mb, mp) → mwn_5 = 1) := by
  first | omega | (simp only [kU, uT, kG]; grind)
theorem lf_X8_takes_12 {mk : Int32} {mv : Int32} {mb : Int32} {mz : Nat} {mp : Nat} {n : Int32} {mwn_5 : Int32} (hmp : mp ≤ mz) (hmz : mz ≤ 120) (c_1 : mk = 1) (c_3 : ¬ (mv = n)) (hF_5_0 : mwn_5 = 1) : ¬ kG n (mk, mv, mb, mp) := by
  first | omega | (simp only [kU, uT, kG]; grind)
set_option maxHeartbeats 4000000 in
set_option maxRecDepth 100000 in
theorem r_X8_takes (l : Launch) (dC : Nat → ClassId) (dI : Nat → Nat → Nat) (cI cZ cL cJ : ClassId) (sz : Nat) (mo : Nat) (m_la : Nat) (m_sz : Nat) (m_it : Nat) (m_st : Nat) (m_mv : Nat) (m_tp : Nat) (m_rd : Nat) (m_ac : Nat) (m_as : Nat) (m_wo : Nat) (m_ik : Nat) (m_ke : Nat) (m_tr : Nat) (ms : Int32) (mt : Int32) (ml : Int32) (mk : Int32) (mv : Int32) (mb : Int32) (mw : Int32) (mz : Nat) (mp : Nat) (ma : Nat) (mx : Nat) (ft_ : Nat → Int32) (n : Int32) (hmp : mp ≤ mz) (hmz : mz ≤ 120) : Met l yX8_takes wsX8_takes ({ frames := 2, cells := 0, slots := 0, locals := 45 }) (va_Pc [.ref mo, .int n] (fun U => U.heap.size = sz ∧ va_P (dC, dI) vwCl [(xo_8_rrriirrriiiiiiirrirrrrri mo m_la m_sz m_it ms mt m_st m_mv m_tp (nI mz) ml (nI mp) mk mv mb mw m_rd m_ac (nI ma) m_as m_wo m_ik m_ke m_tr (nI mx)), (xI m_tp cI 120 ft_)] U.heap ∧ va_K (dC, dI) vwCl [(cI, .int), (cZ, .boolean), (cL, .object RX3), (cJ, .array .int)] U ∧ va_D (fun _ => True) [(xo_8_rrriirrriiiiiiirrirrrrri mo m_la m_sz m_it ms mt m_st m_mv m_tp (nI mz) ml (nI mp) mk mv mb mw m_rd m_ac (nI ma) m_as m_wo m_ik m_ke m_tr (nI mx)), (xI m_tp cI 120 ft_)])) (va_Qi (fun r (_ : Unit) => (r = 0 ∧ ¬ kG n (mk, mv, mb, mp)) ∨ (r = 1 ∧ kG n (mk, mv, mb, mp))) (fun (_ : Unit) t => ∃ (mkn : Int32) (mvn : Int32) (mbn : Int32) (mpn : Nat) (mwn : Int32), va_P (dC, dI) vwCl [(xo_8_rrriirrriiiiiiirrirrrrri mo m_la m_sz m_it ms mt m_st m_mv m_tp (nI mz) ml (nI mpn) mkn mvn mbn mwn m_rd m_ac (nI ma) m_as m_wo m_ik m_ke m_tr (nI mx)), (xI m_tp cI 120 ft_)] t.heap ∧ va_D (va_A [(xo_8_rrriirrriiiiiiirrirrrrri mo m_la m_sz m_it ms mt m_st m_mv m_tp (nI mz) ml (nI mp) mk mv mb mw m_rd m_ac (nI ma) m_as m_wo m_ik m_ke m_tr (nI mx)), (xI m_tp cI 120 ft_)] sz) [(xo_8_rrriirrriiiiiiirrirrrrri mo m_la m_sz m_it ms mt m_st m_mv m_tp (nI mz) ml (nI mpn) mkn mvn mbn mwn m_rd m_ac (nI ma) m_as m_wo m_ik m_ke m_tr (nI mx)), (xI m_tp cI 120 ft_)] ∧ mpn ≤ mz ∧ kU ft_ mz n (mk, mv, mb, mp) = (mkn, mvn, mbn, mpn) ∧ (¬ kG n (mk, mv, mb, mp) → mwn = 1)) (va_A [(xo_8_rrriirrriiiiiiirrirrrrri mo m_la m_sz m_it ms mt m_st m_mv m_tp (nI mz) ml (nI mp) mk mv mb mw m_rd m_ac (nI ma) m_as m_wo m_ik m_ke m_tr (nI mx)), (xI m_tp cI 120 ft_)] sz)) 0 0 (va_A [(xo_8_rrriirrriiiiiiirrirrrrri mo m_la m_sz m_it ms mt m_st m_mv m_tp (nI mz) ml (nI mp) mk mv mb mw m_rd m_ac (nI ma) m_as m_wo m_ik m_ke m_tr (nI mx)), (xI m_tp cI 120 ft_)] sz) := by
  refine Met.ofW (cc := cX8_takes) (maxL := 2) (ret := (some .boolean)) (by decide) rfl ?_
  intro p e s m args below meth c s₁ B hml hv
  obtain ⟨rfl, hsz, hP, hK, hD0⟩ := hv
  have hx := B.exec
  have hb := B.bytes
  have hr := B.returns
  have hts := atoms_spec (ws := wsX8_takes) B.pre
  have hown : s.vm.findClass RX8 = some m.cls := findClass_of_methodNamed B.named
  have hlocks := B.notSynchronized
  subst hsz
  have hD := hD0.self (sz := s.heap.size)
  generalize hAe : va_A [(xo_8_rrriirrriiiiiiirrirrrrri mo m_la m_sz m_it ms mt m_st m_mv m_tp (nI mz) ml (nI mp) mk mv mb mw m_rd m_ac (nI ma) m_as m_wo m_ik m_ke m_tr (nI mx)), (xI m_tp cI 120 ft_)] s.heap.size = A at hD ⊢
  have hA : ∀ q : Nat, s.heap.size ≤ q → A q := fun q h => by rw [← hAe]; exact Or.inr h
  have hS : va_S A s.heap s.heap [] := va_S.rf
  have hP : va_P (dC, dI) vwCl [(xo_8_rrriirrriiiiiiirrirrrrri mo m_la m_sz m_it ms mt m_st m_mv m_tp (nI mz) ml (nI mp) mk mv mb mw m_rd m_ac (nI ma) m_as m_wo m_ik m_ke m_tr (nI mx)), (xI m_tp cI 120 ft_)] s.heap := hP
  have hl := lv_entry ([.ref mo, .int n]) (n := 2) (Nat.le_of_ble_eq_true rfl)
  rw [lg_entry_eq]
  generalize (lg_sl ([.ref mo, .int n]) ++ List.replicate (2 - (lg_sl ([.ref mo, .int n])).length) Slot.unset).toArray = ls at hl ⊢
  have hl : lv_has ls 2 [(0, .ref mo), (1, .int n)] := hl
  refine lv_aload_n hx hb dX8_takes_0 rfl (lv_at hl 0 rfl) ?_
  refine va_get (D := (dC, dI)) (ci := 8) (v := .int mk) (C := RX8) (T := TX8) (N := 24) hx hb hts i_X8_takes_X8 hown hK hP 0 rfl rfl 11 (by decide) (hts _ mx_X8_takes_1) (fun _ h9 => h9) rfl dX8_takes_1 ?_
  refine lv_iconst (v := 1) hx hb dX8_takes_4 (by decide) ?_
  refine lv_icmp_ne (tgt := 16) hx hb dX8_takes_5 (by decide) (fun c_1 => ?_) (fun c_1 => ?_)
  · skip
    refine lv_aload_n hx hb dX8_takes_16 rfl (lv_at hl 0 rfl) ?_
    refine lv_iconst (v := 1) hx hb dX8_takes_17 (by decide) ?_
    have hc_2 := cutW (wc := [(xo_8_rrriirrriiiiiiirrirrrrri mo m_la m_sz m_it ms mt m_st m_mv m_tp (nI mz) ml (nI mp) mk mv mb mw m_rd m_ac (nI ma) m_as m_wo m_ik m_ke m_tr (nI mx))]) hP hD hS hA [0] (by decide +kernel) rfl
    refine va_calli (va_runV (As := [.int 1]) (rest := []) ⟨hx, hb, hml, hown, hts⟩ (r_X8_faults l dC dI cI cZ cL cJ s.heap.size mo m_la m_sz m_it m_st m_mv m_tp m_rd m_ac m_as m_wo m_ik m_ke m_tr ms mt ml mk mv mb mw mz mp ma mx 1 ) (cwV 1 hts gX8_takes_X8_faults rfl rfl rfl (by decide +kernel) ⟨Nat.le_of_ble_eq_true rfl, Nat.le_of_ble_eq_true rfl⟩) (pvW 8 0 hK hP rfl rfl hc_2) rfl rfl hl.1 rfl (lv_room (Nat.le_of_ble_eq_true rfl)) dX8_takes_18 ⟨Nat.le_of_ble_eq_true rfl, Nat.le_of_ble_eq_true rfl⟩) hS (fun q _ h => hc_2.2.2 q h) hc_2.2.2 (fun r_2 u_2 t_2 H1 locs ht hvm h_2 hB hz1 hk1 hS => ?_)
    refine xl_1_3 hB (fun mwn_2 hP1 hD1 hF_2_0 => ?_)
    clear hB
    rw [ht] at hP1
    obtain ⟨hP, hD⟩ := va_join (wr := [(xI m_tp cI 120 ft_)]) (w1 := [(xo_8_rrriirrriiiiiiirrirrrrri mo m_la m_sz m_it ms mt m_st m_mv m_tp (nI mz) ml (nI mp) mk mv mb mwn_2 m_rd m_ac (nI ma) m_as m_wo m_ik m_ke m_tr (nI mx))]) hP hD [0] [1] rfl rfl (by decide +kernel) (by decide +kernel) hk1 hc_2.2.2 hP1 hD1
    generalize H1 = H at hP hS ⊢
    have hP : va_P (dC, dI) vwCl [(xI m_tp cI 120 ft_), (xo_8_rrriirrriiiiiiirrirrrrri mo m_la m_sz m_it ms mt m_st m_mv m_tp (nI mz) ml (nI mp) mk mv mb mwn_2 m_rd m_ac (nI ma) m_as m_wo m_ik m_ke m_tr (nI mx))] H := hP
    have hD := dto hP hD
    subst h_2
    have hX9 := cut2 (wc := [(xo_8_rrriirrriiiiiiirrirrrrri mo m_la m_sz m_it ms mt m_st m_mv m_tp (nI mz) ml (nI mp) mk mv mb mwn_2 m_rd m_ac (nI ma) m_as m_wo m_ik m_ke m_tr (nI mx)), (xI m_tp cI 120 ft_)]) hP hD [1, 0] (by decide +kernel) rfl
    exact W.zret (v := 0) hx hb hr (by decide) (fun t ht hW => ⟨⟨0, (), rfl, Or.inl (⟨rfl, (lf_X8_takes_4 hmp hmz c_1 hF_2_0)⟩), ⟨mk, mv, mb, mp, mwn_2, va_Ht ht hX9.1, hX9.2, (lf_X8_takes_1 hmp hmz c_1 hF_2_0), (lf_X8_takes_2 hmp hmz c_1 hF_2_0), (lf_X8_takes_3 hmp hmz c_1 hF_2_0)⟩⟩, hS.F ht⟩) hS.2.2 dX8_takes_21
  · skip
    refine lv_aload_n hx hb dX8_takes_8 rfl (lv_at hl 0 rfl) ?_
    refine va_get (D := (dC, dI)) (ci := 8) (v := .int mv) (C := RX8) (T := TX8) (N := 24) hx hb hts i_X8_takes_X8 hown hK hP 0 rfl rfl 12 (by decide) (hts _ mx_X8_takes_2) (fun _ h9 => h9) rfl dX8_takes_9 ?_
    refine lv_iload_n hx hb dX8_takes_12 rfl (lv_at hl 1 rfl) ?_
    refine lv_icmp_eq (tgt := 22) hx hb dX8_takes_13 (by decide) (fun c_3 => ?_) (fun c_3 => ?_)
    · skip
      refine lv_aload_n hx hb dX8_takes_22 rfl (lv_at hl 0 rfl) ?_
      have hc_4 := cutW (wc := [(xo_8_rrriirrriiiiiiirrirrrrri mo m_la m_sz m_it ms mt m_st m_mv m_tp (nI mz) ml (nI mp) mk mv mb mw m_rd m_ac (nI ma) m_as m_wo m_ik m_ke m_tr (nI mx)), (xI m_tp cI 120 ft_)]) hP hD hS hA [0, 1] (by decide +kernel) rfl
      refine va_callv (va_runV (As := []) (rest := []) ⟨hx, hb, hml, hown, hts⟩ (r_X8_nextToken l dC dI cI cZ cL cJ s.heap.size mo m_la m_sz m_it m_st m_mv m_tp m_rd m_ac m_as m_wo m_ik m_ke m_tr ms mt ml mk mv mb mw mz mp ma mx ft_ (by omega) (hmz)) (cwV 0 hts gX8_takes_X8_nextToken rfl rfl rfl (by decide +kernel) ⟨Nat.le_of_ble_eq_true rfl, Nat.le_of_ble_eq_true rfl⟩) (pvW 8 0 hK hP rfl rfl hc_4) rfl rfl hl.1 rfl (lv_room (Nat.le_of_ble_eq_true rfl)) dX8_takes_23 ⟨Nat.le_of_ble_eq_true rfl, Nat.le_of_ble_eq_true rfl⟩) hS (fun q _ h => hc_4.2.2 q h) hc_4.2.2 (fun u_4 t_4 H1 locs ht hvm h_4 hB hz1 hk1 hS => ?_)
      refine xl_4_4 hB (fun mkn_4 mvn_4 mbn_4 mpn_4 hP1 hD1 hF_4_0 hF_4_1 => ?_)
      clear hB
      rw [ht] at hP1
      obtain ⟨hP, hD⟩ := va_join (wr := []) (w1 := [(xo_8_rrriirrriiiiiiirrirrrrri mo m_la m_sz m_it ms mt m_st m_mv m_tp (nI mz) ml (nI mpn_4) mkn_4 mvn_4 mbn_4 mw m_rd m_ac (nI ma) m_as m_wo m_ik m_ke m_tr (nI mx)), (xI m_tp cI 120 ft_)]) hP hD [0, 1] [] rfl rfl (by decide +kernel) (by decide +kernel) hk1 hc_4.2.2 hP1 hD1
      generalize H1 = H at hP hS ⊢
      have hP : va_P (dC, dI) vwCl [(xo_8_rrriirrriiiiiiirrirrrrri mo m_la m_sz m_it ms mt m_st m_mv m_tp (nI mz) ml (nI mpn_4) mkn_4 mvn_4 mbn_4 mw m_rd m_ac (nI ma) m_as m_wo m_ik m_ke m_tr (nI mx)), (xI m_tp cI 120 ft_)] H := hP
      have hD := dto hP hD
      refine lv_iconst (v := 1) hx hb dX8_takes_26 (by decide) ?_
      have hX9 := cut2 (wc := [(xo_8_rrriirrriiiiiiirrirrrrri mo m_la m_sz m_it ms mt m_st m_mv m_tp (nI mz) ml (nI mpn_4) mkn_4 mvn_4 mbn_4 mw m_rd m_ac (nI ma) m_as m_wo m_ik m_ke m_tr (nI mx)), (xI m_tp cI 120 ft_)]) hP hD [0, 1] (by decide +kernel) rfl
      exact W.zret (v := 1) hx hb hr (by decide) (fun t ht hW => ⟨⟨1, (), rfl, Or.inr (⟨rfl, (lf_X8_takes_8 hmp hmz c_1 c_3 hF_4_0 hF_4_1)⟩), ⟨mkn_4, mvn_4, mbn_4, mpn_4, mw, va_Ht ht hX9.1, hX9.2, (lf_X8_takes_5 hmp hmz c_1 c_3 hF_4_0 hF_4_1), (lf_X8_takes_6 hmp hmz c_1 c_3 hF_4_0 hF_4_1), (lf_X8_takes_7 hmp hmz c_1 c_3 hF_4_0 hF_4_1)⟩⟩, hS.F ht⟩) hS.2.2 dX8_takes_27
    · skip
      refine lv_aload_n hx hb dX8_takes_16 rfl (lv_at hl 0 rfl) ?_
      refine lv_iconst (v := 1) hx hb dX8_takes_17 (by decide) ?_
      have hc_5 := cutW (wc := [(xo_8_rrriirrriiiiiiirrirrrrri mo m_la m_sz m_it ms mt m_st m_mv m_tp (nI mz) ml (nI mp) mk mv mb mw m_rd m_ac (nI ma) m_as m_wo m_ik m_ke m_tr (nI mx))]) hP hD hS hA [0] (by decide +kernel) rfl
      refine va_calli (va_runV (As := [.int 1]) (rest := []) ⟨hx, hb, hml, hown, hts⟩ (r_X8_faults l dC dI cI cZ cL cJ s.heap.size mo m_la m_sz m_it m_st m_mv m_tp m_rd m_ac m_as m_wo m_ik m_ke m_tr ms mt ml mk mv mb mw mz mp ma mx 1 ) (cwV 1 hts gX8_takes_X8_faults rfl rfl rfl (by decide +kernel) ⟨Nat.le_of_ble_eq_true rfl, Nat.le_of_ble_eq_true rfl⟩) (pvW 8 0 hK hP rfl rfl hc_5) rfl rfl hl.1 rfl (lv_room (Nat.le_of_ble_eq_true rfl)) dX8_takes_18 ⟨Nat.le_of_ble_eq_true rfl, Nat.le_of_ble_eq_true rfl⟩) hS (fun q _ h => hc_5.2.2 q h) hc_5.2.2 (fun r_5 u_5 t_5 H1 locs ht hvm h_5 hB hz1 hk1 hS => ?_)
      refine xl_1_3 hB (fun mwn_5 hP1 hD1 hF_5_0 => ?_)
      clear hB
      rw [ht] at hP1
      obtain ⟨hP, hD⟩ := va_join (wr := [(xI m_tp cI 120 ft_)]) (w1 := [(xo_8_rrriirrriiiiiiirrirrrrri mo m_la m_sz m_it ms mt m_st m_mv m_tp (nI mz) ml (nI mp) mk mv mb mwn_5 m_rd m_ac (nI ma) m_as m_wo m_ik m_ke m_tr (nI mx))]) hP hD [0] [1] rfl rfl (by decide +kernel) (by decide +kernel) hk1 hc_5.2.2 hP1 hD1
      generalize H1 = H at hP hS ⊢
      have hP : va_P (dC, dI) vwCl [(xI m_tp cI 120 ft_), (xo_8_rrriirrriiiiiiirrirrrrri mo m_la m_sz m_it ms mt m_st m_mv m_tp (nI mz) ml (nI mp) mk mv mb mwn_5 m_rd m_ac (nI ma) m_as m_wo m_ik m_ke m_tr (nI mx))] H := hP
      have hD := dto hP hD
      subst h_5
      have hX9 := cut2 (wc := [(xo_8_rrriirrriiiiiiirrirrrrri mo m_la m_sz m_it ms mt m_st m_mv m_tp (nI mz) ml (nI mp) mk mv mb mwn_5 m_rd m_ac (nI ma) m_as m_wo m_ik m_ke m_tr (nI mx)), (xI m_tp cI 120 ft_)]) hP hD [1, 0] (by decide +kernel) rfl
      exact W.zret (v := 0) hx hb hr (by decide) (fun t ht hW => ⟨⟨0, (), rfl, Or.inl (⟨rfl, (lf_X8_takes_12 hmp hmz c_1 c_3 hF_5_0)⟩), ⟨mk, mv, mb, mp, mwn_5, va_Ht ht hX9.1, hX9.2, (lf_X8_takes_9 hmp hmz c_1 c_3 hF_5_0), (lf_X8_takes_10 hmp hmz c_1 c_3 hF_5_0), (lf_X8_takes_11 hmp hmz c_1 c_3 hF_5_0)⟩⟩, hS.F ht⟩) hS.2.2 dX8_takes_21
theorem lf_X8_takesNumber_1 {mk : Int32} {mz : Nat} {mp : Nat} {ix : Nat} {mwn_3 : Int32} (hmp : mp ≤ mz) (hmz : mz ≤ 120) (hix : ix < 38) (c_1 : ¬ (mk = 2)) (c_2 : ¬ (mk = 2)) (hF_3_0 : mwn_3 = 1) : mp ≤ mz := by
  first
  | omega
  | (have h8 := m38_up (f := fr) (v := mv) hix
     try simp only [w_lt] at *
     simp only [nU, kU, uT, nR, nE, nGG, nG, kG] at *
     grind)
  | (try simp only [w_lt] at *
     simp only [nU, kU, uT, nR, nE, nGG, nG, kG] at *
     grind)
theorem lf_X8_takesNumber_2 {mk : Int32} {mv : Int32} {mb : Int32} {mz : Nat} {mp : Nat} {ft_ : Nat → Int32} {lo : Int32} {hi : Int32} {ix : Nat} {n : Int32} {mwn_3 : Int32} (hmp : mp ≤ mz) (hmz : mz ≤ 120) (hix : ix < 38) (c_1 : ¬ (mk = 2)) (c_2 : ¬ (mk = 2)) (hF_3_0 : mwn_3 = 1) : nU ft_ mz lo hi n (mk, mv, mb, mp) = (mk, mv, mb, mp) := by
  first
  | omega
  | (have h8 := m38_up (f := fr) (v := mv) hix
     try simp only [w_lt] at *
     simp only [nU, kU, uT, nR, nE, nGG, nG, kG] at *
     grind)
  | (try simp only [w_lt] at *
     simp only [nU, kU, uT, nR, nE, nGG, nG, kG] at *
     grind)
theorem lf_X8_takesNumber_3 {mk : Int32} {mv : Int32} {mb : Int32} {mz : Nat} {mp : Nat} {fr : Nat → Int32} {lo : Int32} {hi : Int32} {ix : Nat} {mwn_3 : Int32} (hmp : mp ≤ mz) (hmz : mz ≤ 120) (hix : ix < 38) (c_1 : ¬ (mk = 2)) (c_2 : ¬ (mk = 2)) (hF_3_0 : mwn_3 = 1) : m38 fr = nR lo hi ix (mk, mv, mb, mp) (m38 fr) := by
  first
  | omega
  | (have h8 := m38_up (f := fr) (v := mv) hix
     try simp only [w_lt] at *
     simp only [nU, kU, uT, nR, nE, nGG, nG, kG] at *
     grind)
  | (try simp only [w_lt] at *
     simp only [nU, kU, uT, nR, nE, nGG, nG, kG] at *
     grind)
theorem lf_X8_takesNumber_4 {mk : Int32} {mv : Int32} {mb : Int32} {mz : Nat} {mp : Nat} {ft_ : Nat → Int32} {lo : Int32} {hi : Int32} {ix : Nat} {n : Int32} {mwn_3 : Int32} (hmp : mp ≤ mz) (hmz : mz ≤ 120) (hix : ix < 38) (c_1 : ¬ (mk = 2)) (c_2 : ¬ (mk = 2)) (hF_3_0 : mwn_3 = 1) : (¬ nGG ft_ mz lo hi n (mk, mv, mb, mp) → mwn_3 = nE lo hi (mk, mv, mb, mp)) := by
  first
  | omega
  | (have h8 := m38_up (f := fr) (v := mv) hix
     try simp only [w_lt] at *
     simp only [nU, kU, uT, nR, nE, nGG, nG, kG] at *
     grind)
  | (try simp only [w_lt] at *
     simp only [nU, kU, uT, nR, nE, nGG, nG, kG] at *
     grind)
theorem lf_X8_takesNumber_5 {mk : Int32} {mv : Int32} {mb : Int32} {mz : Nat} {mp : Nat} {ft_ : Nat → Int32} {lo : Int32} {hi : Int32} {ix : Nat} {n : Int32} {mwn_3 : Int32} (hmp : mp ≤ mz) (hmz : mz ≤ 120) (hix : ix < 38) (c_1 : ¬ (mk = 2)) (c_2 : ¬ (mk = 2)) (hF_3_0 : mwn_3 = 1) : ¬ nGG ft_ mz lo hi n (mk, mv, mb, mp) := by
  first
  | omega
  | (have h8 := m38_up (f := fr) (v := mv) hix
     try simp only [w_lt] at *
     simp only [nU, kU, uT, nR, nE, nGG, nG, kG] at *
     grind)
  | (try simp only [w_lt] at *
     simp only [nU, kU, uT, nR, nE, nGG, nG, kG] at *
     grind)
theorem lf_X8_takesNumber_6 {mk : Int32} {mz : Nat} {mp : Nat} {ix : Nat} {mwn_4 : Int32} (hmp : mp ≤ mz) (hmz : mz ≤ 120) (hix : ix < 38) (c_1 : ¬ (mk = 2)) (c_2 : mk = 2) (hF_4_0 : mwn_4 = 2) : mp ≤ mz := by
  exact absurd c_2 c_1
theorem lf_X8_takesNumber_7 {mk : Int32} {mv : Int32} {mb : Int32} {mz : Nat} {mp : Nat} {ft_ : Nat → Int32} {lo : Int32} {hi : Int32} {ix : Nat} {n : Int32} {mwn_4 : Int32} (hmp : mp ≤ mz) (hmz : mz ≤ 120) (hix : ix < 38) (c_1 : ¬ (mk = 2)) (c_2 : mk = 2) (hF_4_0 : mwn_4 = 2) : nU ft_ mz lo hi n (mk, mv, mb, mp) = (mk, mv, mb, mp) := by
  exact absurd c_2 c_1
theorem lf_X8_takesNumber_8 {mk : Int32} {mv : Int32} {mb : Int32} {mz : Nat} {mp : Nat} {fr : Nat → Int32} {lo : Int32} {hi : Int32} {ix : Nat} {mwn_4 : Int32} (hmp : mp ≤ mz) (hmz : mz ≤ 120) (hix : ix < 38) (c_1 : ¬ (mk = 2)) (c_2 : mk = 2) (hF_4_0 : mwn_4 = 2) : m38 fr = nR lo hi ix (mk, mv, mb, mp) (m38 fr) := by
  exact absurd c_2 c_1
theorem lf_X8_takesNumber_9 {mk : Int32} {mv : Int32} {mb : Int32} {mz : Nat} {mp : Nat} {ft_ : Nat → Int32} {lo : Int32} {hi : Int32} {ix : Nat} {n : Int32} {mwn_4 : Int32} (hmp : mp ≤ mz) (hmz : mz ≤ 120) (hix : ix < 38) (c_1 : ¬ (mk = 2)) (c_2 : mk = 2) (hF_4_0 : mwn_4 = 2) : (¬ nGG ft_ mz lo hi n (mk, mv, mb, mp) → mwn_4 = nE lo hi (mk, mv, mb, mp)) := by
  exact absurd c_2 c_1
theorem lf_X8_takesNumber_10 {mk : Int32} {mv : Int32} {mb : Int32} {mz : Nat} {mp : Nat} {ft_ : Nat → Int32} {lo : Int32} {hi : Int32} {ix : Nat} {n : Int32} {mwn_4 : Int32} (hmp : mp ≤ mz) (hmz : mz ≤ 120) (hix : ix < 38) (c_1 : ¬ (mk = 2)) (c_2 : mk = 2) (hF_4_0 : mwn_4 = 2) : ¬ nGG ft_ mz lo hi n (mk, mv, mb, mp) := by
  exact absurd c_2 c_1
theorem lf_X8_takesNumber_11 {mk : Int32} {mv : Int32} {mz : Nat} {mp : Nat} {lo : Int32} {hi : Int32} {ix : Nat} {mwn_8 : Int32} (hmp : mp ≤ mz) (hmz : mz ≤ 120) (hix : ix < 38) (c_1 : mk = 2) (f_5_0_0 : ((mv).toInt64 < (lo).toInt64 ∨ (hi).toInt64 < (mv).toInt64)) (c_7 : ¬ (mk = 2)) (hF_8_0 : mwn_8 = 1) : mp ≤ mz := by
  exact absurd c_1 c_7
theorem lf_X8_takesNumber_12 {mk : Int32} {mv : Int32} {mb : Int32} {mz : Nat} {mp : Nat} {ft_ : Nat → Int32} {lo : Int32} {hi : Int32} {ix : Nat} {n : Int32} {mwn_8 : Int32} (hmp : mp ≤ mz) (hmz : mz ≤ 120) (hix : ix < 38) (c_1 : mk = 2) (f_5_0_0 : ((mv).toInt64 < (lo).toInt64 ∨ (hi).toInt64 < (mv).toInt64)) (c_7 : ¬ (mk = 2)) (hF_8_0 : mwn_8 = 1) : nU ft_ mz lo hi n (mk, mv, mb, mp) = (mk, mv, mb, mp) := by
  exact absurd c_1 c_7
theorem lf_X8_takesNumber_13 {mk : Int32} {mv : Int32} {mb : Int32} {mz : Nat} {mp : Nat} {fr : Nat → Int32} {lo : Int32} {hi : Int32} {ix : Nat} {mwn_8 : Int32} (hmp : mp ≤ mz) (hmz : mz ≤ 120) (hix : ix < 38) (c_1 : mk = 2) (f_5_0_0 : ((mv).toInt64 < (lo).toInt64 ∨ (hi).toInt64 < (mv).toInt64)) (c_7 : ¬ (mk = 2)) (hF_8_0 : mwn_8 = 1) : m38 fr = nR lo hi ix (mk, mv, mb, mp) (m38 fr) := by
  exact absurd c_1 c_7
theorem lf_X8_takesNumber_14 {mk : Int32} {mv : Int32} {mb : Int32} {mz : Nat} {mp : Nat} {ft_ : Nat → Int32} {lo : Int32} {hi : Int32} {ix : Nat} {n : Int32} {mwn_8 : Int32} (hmp : mp ≤ mz) (hmz : mz ≤ 120) (hix : ix < 38) (c_1 : mk = 2) (f_5_0_0 : ((mv).toInt64 < (lo).toInt64 ∨ (hi).toInt64 < (mv).toInt64)) (c_7 : ¬ (mk = 2)) (hF_8_0 : mwn_8 = 1) : (¬ nGG ft_ mz lo hi n (mk, mv, mb, mp) → mwn_8 = nE lo hi (mk, mv, mb, mp)) := by
  exact absurd c_1 c_7
theorem lf_X8_takesNumber_15 {mk : Int32} {mv : Int32} {mb : Int32} {mz : Nat} {mp : Nat} {ft_ : Nat → Int32} {lo : Int32} {hi : Int32} {ix : Nat} {n : Int32} {mwn_8 : Int32} (hmp : mp ≤ mz) (hmz : mz ≤ 120) (hix : ix < 38) (c_1 : mk = 2) (f_5_0_0 : ((mv).toInt64 < (lo).toInt64 ∨ (hi).toInt64 < (mv).toInt64)) (c_7 : ¬ (mk = 2)) (hF_8_0 : mwn_8 = 1) : ¬ nGG ft_ mz lo hi n (mk, mv, mb, mp) := by
  exact absurd c_1 c_7
theorem lf_X8_takesNumber_16 {mk : Int32} {mv : Int32} {mz : Nat} {mp : Nat} {lo : Int32} {hi : Int32} {ix : Nat} {mwn_9 : Int32} (hmp : mp ≤ mz) (hmz : mz ≤ 120) (hix : ix < 38) (c_1 : mk = 2) (f_5_0_0 : ((mv).toInt64 < (lo).toInt64 ∨ (hi).toInt64 < (mv).toInt64)) (c_7 : mk = 2) (hF_9_0 : mwn_9 = 2) : mp ≤ mz := by
  first
  | omega
  | (have h8 := m38_up (f := fr) (v := mv) hix
     try simp only [w_lt] at *
     simp only [nU, kU, uT, nR, nE, nGG, nG, kG] at *
     grind)
  | (try simp only [w_lt] at *
     simp only [nU, kU, uT, nR, nE, nGG, nG, kG] at *
     grind)
theorem lf_X8_takesNumber_17 {mk : Int32} {mv : Int32} {mb : Int32} {mz : Nat} {mp : Nat} {ft_ : Nat → Int32} {lo : Int32} {hi : Int32} {ix : Nat} {n : Int32} {mwn_9 : Int32} (hmp : mp ≤ mz) (hmz : mz ≤ 120) (hix : ix < 38) (c_1 : mk = 2) (f_5_0_0 : ((mv).toInt64 < (lo).toInt64 ∨ (hi).toInt64 < (mv).toInt64)) (c_7 : mk = 2) (hF_9_0 : mwn_9 = 2) : nU ft_ mz lo hi n (mk, mv, mb, mp) = (mk, mv, mb, mp) := by
  first
  | omega
  | (have h8 := m38_up (f := fr) (v := mv) hix
     try simp only [w_lt] at *
     simp only [nU, kU, uT, nR, nE, nGG, nG, kG] at *
     grind)
  | (try simp only [w_lt] at *
     simp only [nU, kU, uT, nR, nE, nGG, nG, kG] at *
     grind)
theorem lf_X8_takesNumber_18 {mk : Int32} {mv : Int32} {mb : Int32} {mz : Nat} {mp : Nat} {fr : Nat → Int32} {lo : Int32} {hi : Int32} {ix : Nat} {mwn_9 : Int32} (hmp : mp ≤ mz) (hmz : mz ≤ 120) (hix : ix < 38) (c_1 : mk = 2) (f_5_0_0 : ((mv).toInt64 < (lo).toInt64 ∨ (hi).toInt64 < (mv).toInt64)) (c_7 : mk = 2) (hF_9_0 : mwn_9 = 2) : m38 fr = nR lo hi ix (mk, mv, mb, mp) (m38 fr) := by
  first
  | omega
  | (have h8 := m38_up (f := fr) (v := mv) hix
     try simp only [w_lt] at *
     simp only [nU, kU, uT, nR, nE, nGG, nG, kG] at *
     grind)
  | (try simp only [w_lt] at *
     simp only [nU, kU, uT, nR, nE, nGG, nG, kG] at *
     grind)
theorem lf_X8_takesNumber_19 {mk : Int32} {mv : Int32} {mb : Int32} {mz : Nat} {mp : Nat} {ft_ : Nat → Int32} {lo : Int32} {hi : Int32} {ix : Nat} {n : Int32} {mwn_9 : Int32} (hmp : mp ≤ mz) (hmz : mz ≤ 120) (hix : ix < 38) (c_1 : mk = 2) (f_5_0_0 : ((mv).toInt64 < (lo).toInt64 ∨ (hi).toInt64 < (mv).toInt64)) (c_7 : mk = 2) (hF_9_0 : mwn_9 = 2) : (¬ nGG ft_ mz lo hi n (mk, mv, mb, mp) → mwn_9 = nE lo hi (mk, mv, mb, mp)) := by
  first
  | omega
  | (have h8 := m38_up (f := fr) (v := mv) hix
     try simp only [w_lt] at *
     simp only [nU, kU, uT, nR, nE, nGG, nG, kG] at *
     grind)
  | (try simp only [w_lt] at *
     simp only [nU, kU, uT, nR, nE, nGG, nG, kG] at *
     grind)
theorem lf_X8_takesNumber_20 {mk : Int32} {mv : Int32} {mb : Int32} {mz : Nat} {mp : Nat} {ft_ : Nat → Int32} {lo : Int32} {hi : Int32} {ix : Nat} {n : Int32} {mwn_9 : Int32} (hmp : mp ≤ mz) (hmz : mz ≤ 120) (hix : ix < 38) (c_1 : mk = 2) (f_5_0_0 : ((mv).toInt64 < (lo).toInt64 ∨ (hi).toInt64 < (mv).toInt64)) (c_7 : mk = 2) (hF_9_0 : mwn_9 = 2) : ¬ nGG ft_ mz lo hi n (mk, mv, mb, mp) := by
  first
  | omega
  | (have h8 := m38_up (f := fr) (v := mv) hix
     try simp only [w_lt] at *
     simp only [nU, kU, uT, nR, nE, nGG, nG, kG] at *
     grind)
  | (try simp only [w_lt] at *
     simp only [nU, kU, uT, nR, nE, nGG, nG, kG] at *
     grind)
theorem lf_X8_takesNumber_21 {mk : Int32} {mv : Int32} {mz : Nat} {mp : Nat} {ft_ : Nat → Int32} {fr : Nat → Int32} {lo : Int32} {hi : Int32} {ix : Nat} {n : Int32} {g_11 : Nat → Int32} {mkn_12 : Int32} {mvn_12 : Int32} {mbn_12 : Int32} {mpn_12 : Nat} {mkn_13 : Int32} {mvn_13 : Int32} {mbn_13 : Int32} {mpn_13 : Nat} {mwn_13 : Int32} (hmp : mp ≤ mz) (hmz : mz ≤ 120) (hix : ix < 38) (c_1 : mk = 2) (f_5_1_0 : (¬ ((mv).toInt64 < (lo).toInt64 ∨ (hi).toInt64 < (mv).toInt64))) (hu_11 : g_11 = upd fr ix mv) (hF_12_0 : mpn_12 ≤ mz) (hF_12_1 : nT ft_ mz mp = (mkn_12, mvn_12, mbn_12, mpn_12)) (hF_13_0 : mpn_13 ≤ mz) (hF_13_1 : kU ft_ mz n (mkn_12, mvn_12, mbn_12, mpn_12) = (mkn_13, mvn_13, mbn_13, mpn_13)) (hF_13_2 : (¬ kG n (mkn_12, mvn_12, mbn_12, mpn_12) → mwn_13 = 1)) (f_13_0_0 : ¬ kG n (mkn_12, mvn_12, mbn_12, mpn_12)) : mpn_13 ≤ mz := by
  first
  | omega
  | (have h8 := m38_up (f := fr) (v := mv) hix
     try simp only [w_lt] at *
     simp only [nU, kU, uT, nR, nE, nGG, nG, kG] at *
     grind)
  | (try simp only [w_lt] at *
     simp only [nU, kU, uT, nR, nE, nGG, nG, kG] at *
     grind)
theorem lf_X8_takesNumber_22 {mk : Int32} {mv : Int32} {mb : Int32} {mz : Nat} {mp : Nat} {ft_ : Nat → Int32} {fr : Nat → Int32} {lo : Int32} {hi : Int32} {ix : Nat} {n : Int32} {g_11 : Nat → Int32} {mkn_12 : Int32} {mvn_12 : Int32} {mbn_12 : Int32} {mpn_12 : Nat} {mkn_13 : Int32} {mvn_13 : Int32} {mbn_13 : Int32} {mpn_13 : Nat} {mwn_13 : Int32} (hmp : mp ≤ mz) (hmz : mz ≤ 120) (hix : ix < 38) (c_1 : mk = 2) (f_5_1_0 : (¬ ((mv).toInt64 < (lo).toInt64 ∨ (hi).toInt64 < (mv).toInt64))) (hu_11 : g_11 = upd fr ix mv) (hF_12_0 : mpn_12 ≤ mz) (hF_12_1 : nT ft_ mz mp = (mkn_12, mvn_12, mbn_12, mpn_12)) (hF_13_0 : mpn_13 ≤ mz) (hF_13_1 : kU ft_ mz n (mkn_12, mvn_12, mbn_12, mpn_12) = (mkn_13, mvn_13, mbn_13, mpn_13)) (hF_13_2 : (¬ kG n (mkn_12, mvn_12, mbn_12, mpn_12) → mwn_13 = 1)) (f_13_0_0 : ¬ kG n (mkn_12, mvn_12, mbn_12, mpn_12)) : nU ft_ mz lo hi n (mk, mv, mb, mp) = (mkn_13, mvn_13, mbn_13, mpn_13) := by
  first
  | omega
  | (have h8 := m38_up (f := fr) (v := mv) hix
     try simp only [w_lt] at *
     simp only [nU, kU, uT, nR, nE, nGG, nG, kG] at *
     grind)
  | (try simp only [w_lt] at *
     simp only [nU, kU, uT, nR, nE, nGG, nG, kG] at *
     grind)
theorem lf_X8_takesNumber_23 {mk : Int32} {mv : Int32} {mb : Int32} {mz : Nat} {mp : Nat} {ft_ : Nat → Int32} {fr : Nat → Int32} {lo : Int32} {hi : Int32} {ix : Nat} {n : Int32} {g_11 : Nat → Int32} {mkn_12 : Int32} {mvn_12 : Int32} {mbn_12 : Int32} {mpn_12 : Nat} {mkn_13 : Int32} {mvn_13 : Int32} {mbn_13 : Int32} {mpn_13 : Nat} {mwn_13 : Int32} (hmp : mp ≤ mz) (hmz : mz ≤ 120) (hix : ix < 38) (c_1 : mk = 2) (f_5_1_0 : (¬ ((mv).toInt64 < (lo).toInt64 ∨ (hi).toInt64 < (mv).toInt64))) (hu_11 : g_11 = upd fr ix mv) (hF_12_0 : mpn_12 ≤ mz) (hF_12_1 : nT ft_ mz mp = (mkn_12, mvn_12, mbn_12, mpn_12)) (hF_13_0 : mpn_13 ≤ mz) (hF_13_1 : kU ft_ mz n (mkn_12, mvn_12, mbn_12, mpn_12) = (mkn_13, mvn_13, mbn_13, mpn_13)) (hF_13_2 : (¬ kG n (mkn_12, mvn_12, mbn_12, mpn_12) → mwn_13 = 1)) (f_13_0_0 : ¬ kG n (mkn_12, mvn_12, mbn_12, mpn_12)) : m38 g_11 = nR lo hi ix (mk, mv, mb, mp) (m38 fr) := by
  first
  | omega
  | (have h8 := m38_up (f := fr) (v := mv) hix
     try simp only [w_lt] at *
     simp only [nU, kU, uT, nR, nE, nGG, nG, kG] at *
     grind)
  | (try simp only [w_lt] at *
     simp only [nU, kU, uT, nR, nE, nGG, nG, kG] at *
     grind)
theorem lf_X8_takesNumber_24 {mk : Int32} {mv : Int32} {mb : Int32} {mz : Nat} {mp : Nat} {ft_ : Nat → Int32} {fr : Nat → Int32} {lo : Int32} {hi : Int32} {ix : Nat} {n : Int32} {g_11 : Nat → Int32} {mkn_12 : Int32} {mvn_12 : Int32} {mbn_12 : Int32} {mpn_12 : Nat} {mkn_13 : Int32} {mvn_13 : Int32} {mbn_13 : Int32} {mpn_13 : Nat} {mwn_13 : Int32} (hmp : mp ≤ mz) (hmz : mz ≤ 120) (hix : ix < 38) (c_1 : mk = 2) (f_5_1_0 : (¬ ((mv).toInt64 < (lo).toInt64 ∨ (hi).toInt64 < (mv).toInt64))) (hu_11 : g_11 = upd fr ix mv) (hF_12_0 : mpn_12 ≤ mz) (hF_12_1 : nT ft_ mz mp = (mkn_12, mvn_12, mbn_12, mpn_12)) (hF_13_0 : mpn_13 ≤ mz) (hF_13_1 : kU ft_ mz n (mkn_12, mvn_12, mbn_12, mpn_12) = (mkn_13, mvn_13, mbn_13, mpn_13)) (hF_13_2 : (¬ kG n (mkn_12, mvn_12, mbn_12, mpn_12) → mwn_13 = 1)) (f_13_0_0 : ¬ kG n (mkn_12, mvn_12, mbn_12, mpn_12)) : (¬ nGG ft_ mz lo hi n (mk, mv, mb, mp) → mwn_13 = nE lo hi (mk, mv, mb, mp)) := by
  first
  | omega
  | (have h8 := m38_up (f := fr) (v := mv) hix
     try simp only [w_lt] at *
     simp only [nU, kU, uT, nR, nE, nGG, nG, kG] at *
     grind)
  | (try simp only [w_lt] at *
     simp only [nU, kU, uT, nR, nE, nGG, nG, kG] at *
     grind)
theorem lf_X8_takesNumber_25 {mk : Int32} {mv : Int32} {mb : Int32} {mz : Nat} {mp : Nat} {ft_ : Nat → Int32} {fr : Nat → Int32} {lo : Int32} {hi : Int32} {ix : Nat} {n : Int32} {g_11 : Nat → Int32} {mkn_12 : Int32} {mvn_12 : Int32} {mbn_12 : Int32} {mpn_12 : Nat} {mkn_13 : Int32} {mvn_13 : Int32} {mbn_13 : Int32} {mpn_13 : Nat} {mwn_13 : Int32} (hmp : mp ≤ mz) (hmz : mz ≤ 120) (hix : ix < 38) (c_1 : mk = 2) (f_5_1_0 : (¬ ((mv).toInt64 < (lo).toInt64 ∨ (hi).toInt64 < (mv).toInt64))) (hu_11 : g_11 = upd fr ix mv) (hF_12_0 : mpn_12 ≤ mz) (hF_12_1 : nT ft_ mz mp = (mkn_12, mvn_12, mbn_12, mpn_12)) (hF_13_0 : mpn_13 ≤ mz) (hF_13_1 : kU ft_ mz n (mkn_12, mvn_12, mbn_12, mpn_12) = (mkn_13, mvn_13, mbn_13, mpn_13)) (hF_13_2 : (¬ kG n (mkn_12, mvn_12, mbn_12, mpn_12) → mwn_13 = 1)) (f_13_0_0 : ¬ kG n (mkn_12, mvn_12, mbn_12, mpn_12)) : ¬ nGG ft_ mz lo hi n (mk, mv, mb, mp) := by
  first
  | omega
  | (have h8 := m38_up (f := fr) (v := mv) hix
     try simp only [w_lt] at *
     simp only [nU, kU, uT, nR, nE, nGG, nG, kG] at *
     grind)
  | (try simp only [w_lt] at *
     simp only [nU, kU, uT, nR, nE, nGG, nG, kG] at *
     grind)
theorem lf_X8_takesNumber_26 {mk : Int32} {mv : Int32} {mz : Nat} {mp : Nat} {ft_ : Nat → Int32} {fr : Nat → Int32} {lo : Int32} {hi : Int32} {ix : Nat} {n : Int32} {g_11 : Nat → Int32} {mkn_12 : Int32} {mvn_12 : Int32} {mbn_12 : Int32} {mpn_12 : Nat} {mkn_13 : Int32} {mvn_13 : Int32} {mbn_13 : Int32} {mpn_13 : Nat} {mwn_13 : Int32} (hmp : mp ≤ mz) (hmz : mz ≤ 120) (hix : ix < 38) (c_1 : mk = 2) (f_5_1_0 : (¬ ((mv).toInt64 < (lo).toInt64 ∨ (hi).toInt64 < (mv).toInt64))) (hu_11 : g_11 = upd fr ix mv) (hF_12_0 : mpn_12 ≤ mz) (hF_12_1 : nT ft_ mz mp = (mkn_12, mvn_12, mbn_12, mpn_12)) (hF_13_0 : mpn_13 ≤ mz) (hF_13_1 : kU ft_ mz n (mkn_12, mvn_12, mbn_12, mpn_12) = (mkn_13, mvn_13, mbn_13, mpn_13)) (hF_13_2 : (¬ kG n (mkn_12, mvn_12, mbn_12, mpn_12) → mwn_13 = 1)) (f_13_1_0 : kG n (mkn_12, mvn_12, mbn_12, mpn_12)) : mpn_13 ≤ mz := by
  first
  | omega
  | (have h8 := m38_up (f := fr) (v := mv) hix
     try simp only [w_lt] at *
     simp only [nU, kU, uT, nR, nE, nGG, nG, kG] at *
     grind)
  | (try simp only [w_lt] at *
     simp only [nU, kU, uT, nR, nE, nGG, nG, kG] at *
     grind)
theorem lf_X8_takesNumber_27 {mk : Int32} {mv : Int32} {mb : Int32} {mz : Nat} {mp : Nat} {ft_ : Nat → Int32} {fr : Nat → Int32} {lo : Int32} {hi : Int32} {ix : Nat} {n : Int32} {g_11 : Nat → Int32} {mkn_12 : Int32} {mvn_12 : Int32} {mbn_12 : Int32} {mpn_12 : Nat} {mkn_13 : Int32} {mvn_13 : Int32} {mbn_13 : Int32} {mpn_13 : Nat} {mwn_13 : Int32} (hmp : mp ≤ mz) (hmz : mz ≤ 120) (hix : ix < 38) (c_1 : mk = 2) (f_5_1_0 : (¬ ((mv).toInt64 < (lo).toInt64 ∨ (hi).toInt64 < (mv).toInt64))) (hu_11 : g_11 = upd fr ix mv) (hF_12_0 : mpn_12 ≤ mz) (hF_12_1 : nT ft_ mz mp = (mkn_12, mvn_12, mbn_12, mpn_12)) (hF_13_0 : mpn_13 ≤ mz) (hF_13_1 : kU ft_ mz n (mkn_12, mvn_12, mbn_12, mpn_12) = (mkn_13, mvn_13, mbn_13, mpn_13)) (hF_13_2 : (¬ kG n (mkn_12, mvn_12, mbn_12, mpn_12) → mwn_13 = 1)) (f_13_1_0 : kG n (mkn_12, mvn_12, mbn_12, mpn_12)) : nU ft_ mz lo hi n (mk, mv, mb, mp) = (mkn_13, mvn_13, mbn_13, mpn_13) := by
  first
  | omega
  | (have h8 := m38_up (f := fr) (v := mv) hix
     try simp only [w_lt] at *
     simp only [nU, kU, uT, nR, nE, nGG, nG, kG] at *
     grind)
  | (try simp only [w_lt] at *
     simp only [nU, kU, uT, nR, nE, nGG, nG, kG] at *
     grind)
theorem lf_X8_takesNumber_28 {mk : Int32} {mv : Int32} {mb : Int32} {mz : Nat} {mp : Nat} {ft_ : Nat → Int32} {fr : Nat → Int32} {lo : Int32} {hi : Int32} {ix : Nat} {n : Int32} {g_11 : Nat → Int32} {mkn_12 : Int32} {mvn_12 : Int32} {mbn_12 : Int32} {mpn_12 : Nat} {mkn_13 : Int32} {mvn_13 : Int32} {mbn_13 : Int32} {mpn_13 : Nat} {mwn_13 : Int32} (hmp : mp ≤ mz) (hmz : mz ≤ 120) (hix : ix < 38) (c_1 : mk = 2) (f_5_1_0 : (¬ ((mv).toInt64 < (lo).toInt64 ∨ (hi).toInt64 < (mv).toInt64))) (hu_11 : g_11 = upd fr ix mv) (hF_12_0 : mpn_12 ≤ mz) (hF_12_1 : nT ft_ mz mp = (mkn_12, mvn_12, mbn_12, mpn_12)) (hF_13_0 : mpn_13 ≤ mz) (hF_13_1 : kU ft_ mz n (mkn_12, mvn_12, mbn_12, mpn_12) = (mkn_13, mvn_13, mbn_13, mpn_13)) (hF_13_2 : (¬ kG n (mkn_12, mvn_12, mbn_12, mpn_12) → mwn_13 = 1)) (f_13_1_0 : kG n (mkn_12, mvn_12, mbn_12, mpn_12)) : m38 g_11 = nR lo hi ix (mk, mv, mb, mp) (m38 fr) := by
  first
  | omega
  | (have h8 := m38_up (f := fr) (v := mv) hix
     try simp only [w_lt] at *
     simp only [nU, kU, uT, nR, nE, nGG, nG, kG] at *
     grind)
  | (try simp only [w_lt] at *
     simp only [nU, kU, uT, nR, nE, nGG, nG, kG] at *
     grind)
theorem lf_X8_takesNumber_29 {mk : Int32} {mv : Int32} {mb : Int32} {mz : Nat} {mp : Nat} {ft_ : Nat → Int32} {fr : Nat → Int32} {lo : Int32} {hi : Int32} {ix : Nat} {n : Int32} {g_11 : Nat → Int32} {mkn_12 : Int32} {mvn_12 : Int32} {mbn_12 : Int32} {mpn_12 : Nat} {mkn_13 : Int32} {mvn_13 : Int32} {mbn_13 : Int32} {mpn_13 : Nat} {mwn_13 : Int32} (hmp : mp ≤ mz) (hmz : mz ≤ 120) (hix : ix < 38) (c_1 : mk = 2) (f_5_1_0 : (¬ ((mv).toInt64 < (lo).toInt64 ∨ (hi).toInt64 < (mv).toInt64))) (hu_11 : g_11 = upd fr ix mv) (hF_12_0 : mpn_12 ≤ mz) (hF_12_1 : nT ft_ mz mp = (mkn_12, mvn_12, mbn_12, mpn_12)) (hF_13_0 : mpn_13 ≤ mz) (hF_13_1 : kU ft_ mz n (mkn_12, mvn_12, mbn_12, mpn_12) = (mkn_13, mvn_13, mbn_13, mpn_13)) (hF_13_2 : (¬ kG n (mkn_12, mvn_12, mbn_12, mpn_12) → mwn_13 = 1)) (f_13_1_0 : kG n (mkn_12, mvn_12, mbn_12, mpn_12)) : (¬ nGG ft_ mz lo hi n (mk, mv, mb, mp) → mwn_13 = nE lo hi (mk, mv, mb, mp)) := by
  first
  | omega
  | (have h8 := m38_up (f := fr) (v := mv) hix
     try simp only [w_lt] at *
     simp only [nU, kU, uT, nR, nE, nGG, nG, kG] at *
     grind)
  | (try simp only [w_lt] at *
     simp only [nU, kU, uT, nR, nE, nGG, nG, kG] at *
     grind)
theorem lf_X8_takesNumber_30 {mk : Int32} {mv : Int32} {mb : Int32} {mz : Nat} {mp : Nat} {ft_ : Nat → Int32} {fr : Nat → Int32} {lo : Int32} {hi : Int32} {ix : Nat} {n : Int32} {g_11 : Nat → Int32} {mkn_12 : Int32} {mvn_12 : Int32} {mbn_12 : Int32} {mpn_12 : Nat} {mkn_13 : Int32} {mvn_13 : Int32} {mbn_13 : Int32} {mpn_13 : Nat} {mwn_13 : Int32} (hmp : mp ≤ mz) (hmz : mz ≤ 120) (hix : ix < 38) (c_1 : mk = 2) (f_5_1_0 : (¬ ((mv).toInt64 < (lo).toInt64 ∨ (hi).toInt64 < (mv).toInt64))) (hu_11 : g_11 = upd fr ix mv) (hF_12_0 : mpn_12 ≤ mz) (hF_12_1 : nT ft_ mz mp = (mkn_12, mvn_12, mbn_12, mpn_12)) (hF_13_0 : mpn_13 ≤ mz) (hF_13_1 : kU ft_ mz n (mkn_12, mvn_12, mbn_12, mpn_12) = (mkn_13, mvn_13, mbn_13, mpn_13)) (hF_13_2 : (¬ kG n (mkn_12, mvn_12, mbn_12, mpn_12) → mwn_13 = 1)) (f_13_1_0 : kG n (mkn_12, mvn_12, mbn_12, mpn_12)) : nGG ft_ mz lo hi n (mk, mv, mb, mp) := by
  first
  | omega
  | (have h8 := m38_up (f := fr) (v := mv) hix
     try simp only [w_lt] at *
     simp only [nU, kU, uT, nR, nE, nGG, nG, kG] at *
     grind)
  | (try simp only [w_lt] at *
     simp only [nU, kU, uT, nR, nE, nGG, nG, kG] at *
     grind)
set_option maxHeartbeats 4000000 in
set_option maxRecDepth 100000 in
theorem r_X8_takesNumber (l : Launch) (dC : Nat → ClassId) (dI : Nat → Nat → Nat) (cI cZ cL cJ : ClassId) (sz : Nat) (mo : Nat) (m_la : Nat) (m_sz : Nat) (m_it : Nat) (m_st : Nat) (m_mv : Nat) (m_tp : Nat) (m_rd : Nat) (m_ac : Nat) (m_as : Nat) (m_wo : Nat) (m_ik : Nat) (m_ke : Nat) (m_tr : Nat) (ms : Int32) (mt : Int32) (ml : Int32) (mk : Int32) (mv : Int32) (mb : Int32) (mw : Int32) (mz : Nat) (mp : Nat) (ma : Nat) (mx : Nat) (ft_ : Nat → Int32) (fr : Nat → Int32) (lo : Int32) (hi : Int32) (ix : Nat) (n : Int32) (hmp : mp ≤ mz) (hmz : mz ≤ 120) (hix : ix < 38) : Met l yX8_takesNumber wsX8_takesNumber ({ frames := 3, cells := 0, slots := 0, locals := 66 }) (va_Pc [.ref mo, .int lo, .int hi, .int (nI ix), .int n] (fun U => U.heap.size = sz ∧ va_P (dC, dI) vwCl [(xo_8_rrriirrriiiiiiirrirrrrri mo m_la m_sz m_it ms mt m_st m_mv m_tp (nI mz) ml (nI mp) mk mv mb mw m_rd m_ac (nI ma) m_as m_wo m_ik m_ke m_tr (nI mx)), (xI m_tp cI 120 ft_), (xI m_rd cI 38 fr)] U.heap ∧ va_K (dC, dI) vwCl [(cI, .int), (cZ, .boolean), (cL, .object RX3), (cJ, .array .int)] U ∧ va_D (fun _ => True) [(xo_8_rrriirrriiiiiiirrirrrrri mo m_la m_sz m_it ms mt m_st m_mv m_tp (nI mz) ml (nI mp) mk mv mb mw m_rd m_ac (nI ma) m_as m_wo m_ik m_ke m_tr (nI mx)), (xI m_tp cI 120 ft_), (xI m_rd cI 38 fr)])) (va_Qi (fun r (u : Int32) => r = u ∧ ((r = 0 ∧ ¬ nGG ft_ mz lo hi n (mk, mv, mb, mp)) ∨ (r = 1 ∧ nGG ft_ mz lo hi n (mk, mv, mb, mp)))) (fun (u : Int32) t => ∃ (mkn : Int32) (mvn : Int32) (mbn : Int32) (mpn : Nat) (mwn : Int32) (frn : Nat → Int32), va_P (dC, dI) vwCl [(xo_8_rrriirrriiiiiiirrirrrrri mo m_la m_sz m_it ms mt m_st m_mv m_tp (nI mz) ml (nI mpn) mkn mvn mbn mwn m_rd m_ac (nI ma) m_as m_wo m_ik m_ke m_tr (nI mx)), (xI m_tp cI 120 ft_), (xI m_rd cI 38 frn)] t.heap ∧ va_D (va_A [(xo_8_rrriirrriiiiiiirrirrrrri mo m_la m_sz m_it ms mt m_st m_mv m_tp (nI mz) ml (nI mp) mk mv mb mw m_rd m_ac (nI ma) m_as m_wo m_ik m_ke m_tr (nI mx)), (xI m_tp cI 120 ft_), (xI m_rd cI 38 fr)] sz) [(xo_8_rrriirrriiiiiiirrirrrrri mo m_la m_sz m_it ms mt m_st m_mv m_tp (nI mz) ml (nI mpn) mkn mvn mbn mwn m_rd m_ac (nI ma) m_as m_wo m_ik m_ke m_tr (nI mx)), (xI m_tp cI 120 ft_), (xI m_rd cI 38 frn)] ∧ mpn ≤ mz ∧ (u = 1 → ∃ v : Int32, upd fr ix v = frn ∧ ¬ (v.toInt64 < (lo : Int32).toInt64 ∨ (hi : Int32).toInt64 < v.toInt64)) ∧ nU ft_ mz lo hi n (mk, mv, mb, mp) = (mkn, mvn, mbn, mpn) ∧ m38 frn = nR lo hi ix (mk, mv, mb, mp) (m38 fr) ∧ (¬ nGG ft_ mz lo hi n (mk, mv, mb, mp) → mwn = nE lo hi (mk, mv, mb, mp))) (va_A [(xo_8_rrriirrriiiiiiirrirrrrri mo m_la m_sz m_it ms mt m_st m_mv m_tp (nI mz) ml (nI mp) mk mv mb mw m_rd m_ac (nI ma) m_as m_wo m_ik m_ke m_tr (nI mx)), (xI m_tp cI 120 ft_), (xI m_rd cI 38 fr)] sz)) 0 0 (va_A [(xo_8_rrriirrriiiiiiirrirrrrri mo m_la m_sz m_it ms mt m_st m_mv m_tp (nI mz) ml (nI mp) mk mv mb mw m_rd m_ac (nI ma) m_as m_wo m_ik m_ke m_tr (nI mx)), (xI m_tp cI 120 ft_), (xI m_rd cI 38 fr)] sz) := by
  refine Met.ofW (cc := cX8_takesNumber) (maxL := 5) (ret := (some .boolean)) (by decide) rfl ?_
  intro p e s m args below meth c s₁ B hml hv
  obtain ⟨rfl, hsz, hP, hK, hD0⟩ := hv
  have hx := B.exec
  have hb := B.bytes
  have hr := B.returns
  have hts := atoms_spec (ws := wsX8_takesNumber) B.pre
  have hown : s.vm.findClass RX8 = some m.cls := findClass_of_methodNamed B.named
  have hlocks := B.notSynchronized
  subst hsz
  have hD := hD0.self (sz := s.heap.size)
  generalize hAe : va_A [(xo_8_rrriirrriiiiiiirrirrrrri mo m_la m_sz m_it ms mt m_st m_mv m_tp (nI mz) ml (nI mp) mk mv mb mw m_rd m_ac (nI ma) m_as m_wo m_ik m_ke m_tr (nI mx)), (xI m_tp cI 120 ft_), (xI m_rd cI 38 fr)] s.heap.size = A at hD ⊢
  have hA : ∀ q : Nat, s.heap.size ≤ q → A q := fun q h => by rw [← hAe]; exact Or.inr h
  have hS : va_S A s.heap s.heap [] := va_S.rf
  have hP : va_P (dC, dI) vwCl [(xo_8_rrriirrriiiiiiirrirrrrri mo m_la m_sz m_it ms mt m_st m_mv m_tp (nI mz) ml (nI mp) mk mv mb mw m_rd m_ac (nI ma) m_as m_wo m_ik m_ke m_tr (nI mx)), (xI m_tp cI 120 ft_), (xI m_rd cI 38 fr)] s.heap := hP
  have hl := lv_entry ([.ref mo, .int lo, .int hi, .int (nI ix), .int n]) (n := 5) (Nat.le_of_ble_eq_true rfl)
  rw [lg_entry_eq]
  generalize (lg_sl ([.ref mo, .int lo, .int hi, .int (nI ix), .int n]) ++ List.replicate (5 - (lg_sl ([.ref mo, .int lo, .int hi, .int (nI ix), .int n])).length) Slot.unset).toArray = ls at hl ⊢
  have hl : lv_has ls 5 [(0, .ref mo), (1, .int lo), (2, .int hi), (3, .int (nI ix)), (4, .int n)] := hl
  refine lv_aload_n hx hb dX8_takesNumber_0 rfl (lv_at hl 0 rfl) ?_
  refine va_get (D := (dC, dI)) (ci := 8) (v := .int mk) (C := RX8) (T := TX8) (N := 24) hx hb hts i_X8_takesNumber_X8 hown hK hP 0 rfl rfl 11 (by decide) (hts _ mx_X8_takesNumber_1) (fun _ h9 => h9) rfl dX8_takesNumber_1 ?_
  refine lv_iconst (v := 2) hx hb dX8_takesNumber_4 (by decide) ?_
  refine lv_icmp_ne (tgt := 23) hx hb dX8_takesNumber_5 (by decide) (fun c_1 => ?_) (fun c_1 => ?_)
  · skip
    refine lv_aload_n hx hb dX8_takesNumber_23 rfl (lv_at hl 0 rfl) ?_
    refine lv_aload_n hx hb dX8_takesNumber_24 rfl (lv_at hl 0 rfl) ?_
    refine va_get (D := (dC, dI)) (ci := 8) (v := .int mk) (C := RX8) (T := TX8) (N := 24) hx hb hts i_X8_takesNumber_X8 hown hK hP 0 rfl rfl 11 (by decide) (hts _ mx_X8_takesNumber_1) (fun _ h9 => h9) rfl dX8_takesNumber_25 ?_
    refine lv_iconst (v := 2) hx hb dX8_takesNumber_28 (by decide) ?_
    refine lv_icmp_ne (tgt := 36) hx hb dX8_takesNumber_29 (by decide) (fun c_2 => ?_) (fun c_2 => ?_)
    · skip
      refine lv_iconst (v := 1) hx hb dX8_takesNumber_36 (by decide) ?_
      have hc_3 := cutW (wc := [(xo_8_rrriirrriiiiiiirrirrrrri mo m_la m_sz m_it ms mt m_st m_mv m_tp (nI mz) ml (nI mp) mk mv mb mw m_rd m_ac (nI ma) m_as m_wo m_ik m_ke m_tr (nI mx))]) hP hD hS hA [0] (by decide +kernel) rfl
      refine va_calli (va_runV (As := [.int 1]) (rest := []) ⟨hx, hb, hml, hown, hts⟩ (r_X8_faults l dC dI cI cZ cL cJ s.heap.size mo m_la m_sz m_it m_st m_mv m_tp m_rd m_ac m_as m_wo m_ik m_ke m_tr ms mt ml mk mv mb mw mz mp ma mx 1 ) (cwV 1 hts gX8_takesNumber_X8_faults rfl rfl rfl (by decide +kernel) ⟨Nat.le_of_ble_eq_true rfl, Nat.le_of_ble_eq_true rfl⟩) (pvW 8 0 hK hP rfl rfl hc_3) rfl rfl hl.1 rfl (lv_room (Nat.le_of_ble_eq_true rfl)) dX8_takesNumber_37 ⟨Nat.le_of_ble_eq_true rfl, Nat.le_of_ble_eq_true rfl⟩) hS (fun q _ h => hc_3.2.2 q h) hc_3.2.2 (fun r_3 u_3 t_3 H1 locs ht hvm h_3 hB hz1 hk1 hS => ?_)
      refine xl_1_3 hB (fun mwn_3 hP1 hD1 hF_3_0 => ?_)
      clear hB
      rw [ht] at hP1
      obtain ⟨hP, hD⟩ := va_join (wr := [(xI m_tp cI 120 ft_), (xI m_rd cI 38 fr)]) (w1 := [(xo_8_rrriirrriiiiiiirrirrrrri mo m_la m_sz m_it ms mt m_st m_mv m_tp (nI mz) ml (nI mp) mk mv mb mwn_3 m_rd m_ac (nI ma) m_as m_wo m_ik m_ke m_tr (nI mx))]) hP hD [0] [1, 2] rfl rfl (by decide +kernel) (by decide +kernel) hk1 hc_3.2.2 hP1 hD1
      generalize H1 = H at hP hS ⊢
      have hP : va_P (dC, dI) vwCl [(xI m_tp cI 120 ft_), (xI m_rd cI 38 fr), (xo_8_rrriirrriiiiiiirrirrrrri mo m_la m_sz m_it ms mt m_st m_mv m_tp (nI mz) ml (nI mp) mk mv mb mwn_3 m_rd m_ac (nI ma) m_as m_wo m_ik m_ke m_tr (nI mx))] H := hP
      have hD := dto hP hD
      subst h_3
      have hX9 := cut2 (wc := [(xo_8_rrriirrriiiiiiirrirrrrri mo m_la m_sz m_it ms mt m_st m_mv m_tp (nI mz) ml (nI mp) mk mv mb mwn_3 m_rd m_ac (nI ma) m_as m_wo m_ik m_ke m_tr (nI mx)), (xI m_tp cI 120 ft_), (xI m_rd cI 38 fr)]) hP hD [2, 0, 1] (by decide +kernel) rfl
      exact W.zret (v := 0) hx hb hr (by decide) (fun t ht hW => ⟨⟨0, 0, rfl, ⟨rfl, Or.inl (⟨rfl, (lf_X8_takesNumber_5 hmp hmz hix c_1 c_2 hF_3_0)⟩)⟩, ⟨mk, mv, mb, mp, mwn_3, fr, va_Ht ht hX9.1, hX9.2, (lf_X8_takesNumber_1 hmp hmz hix c_1 c_2 hF_3_0), (fun h_ => absurd h_ (by decide)), (lf_X8_takesNumber_2 hmp hmz hix c_1 c_2 hF_3_0), (lf_X8_takesNumber_3 hmp hmz hix c_1 c_2 hF_3_0), (lf_X8_takesNumber_4 hmp hmz hix c_1 c_2 hF_3_0)⟩⟩, hS.F ht⟩) hS.2.2 dX8_takesNumber_40
    · skip
      refine lv_iconst (v := 2) hx hb dX8_takesNumber_32 (by decide) ?_
      refine lv_goto (tgt := 37) hx hb dX8_takesNumber_33 (by decide) ?_
      have hc_4 := cutW (wc := [(xo_8_rrriirrriiiiiiirrirrrrri mo m_la m_sz m_it ms mt m_st m_mv m_tp (nI mz) ml (nI mp) mk mv mb mw m_rd m_ac (nI ma) m_as m_wo m_ik m_ke m_tr (nI mx))]) hP hD hS hA [0] (by decide +kernel) rfl
      refine va_calli (va_runV (As := [.int 2]) (rest := []) ⟨hx, hb, hml, hown, hts⟩ (r_X8_faults l dC dI cI cZ cL cJ s.heap.size mo m_la m_sz m_it m_st m_mv m_tp m_rd m_ac m_as m_wo m_ik m_ke m_tr ms mt ml mk mv mb mw mz mp ma mx 2 ) (cwV 1 hts gX8_takesNumber_X8_faults rfl rfl rfl (by decide +kernel) ⟨Nat.le_of_ble_eq_true rfl, Nat.le_of_ble_eq_true rfl⟩) (pvW 8 0 hK hP rfl rfl hc_4) rfl rfl hl.1 rfl (lv_room (Nat.le_of_ble_eq_true rfl)) dX8_takesNumber_37 ⟨Nat.le_of_ble_eq_true rfl, Nat.le_of_ble_eq_true rfl⟩) hS (fun q _ h => hc_4.2.2 q h) hc_4.2.2 (fun r_4 u_4 t_4 H1 locs ht hvm h_4 hB hz1 hk1 hS => ?_)
      refine xl_1_3 hB (fun mwn_4 hP1 hD1 hF_4_0 => ?_)
      clear hB
      rw [ht] at hP1
      obtain ⟨hP, hD⟩ := va_join (wr := [(xI m_tp cI 120 ft_), (xI m_rd cI 38 fr)]) (w1 := [(xo_8_rrriirrriiiiiiirrirrrrri mo m_la m_sz m_it ms mt m_st m_mv m_tp (nI mz) ml (nI mp) mk mv mb mwn_4 m_rd m_ac (nI ma) m_as m_wo m_ik m_ke m_tr (nI mx))]) hP hD [0] [1, 2] rfl rfl (by decide +kernel) (by decide +kernel) hk1 hc_4.2.2 hP1 hD1
      generalize H1 = H at hP hS ⊢
      have hP : va_P (dC, dI) vwCl [(xI m_tp cI 120 ft_), (xI m_rd cI 38 fr), (xo_8_rrriirrriiiiiiirrirrrrri mo m_la m_sz m_it ms mt m_st m_mv m_tp (nI mz) ml (nI mp) mk mv mb mwn_4 m_rd m_ac (nI ma) m_as m_wo m_ik m_ke m_tr (nI mx))] H := hP
      have hD := dto hP hD
      subst h_4
      have hX9 := cut2 (wc := [(xo_8_rrriirrriiiiiiirrirrrrri mo m_la m_sz m_it ms mt m_st m_mv m_tp (nI mz) ml (nI mp) mk mv mb mwn_4 m_rd m_ac (nI ma) m_as m_wo m_ik m_ke m_tr (nI mx)), (xI m_tp cI 120 ft_), (xI m_rd cI 38 fr)]) hP hD [2, 0, 1] (by decide +kernel) rfl
      exact W.zret (v := 0) hx hb hr (by decide) (fun t ht hW => ⟨⟨0, 0, rfl, ⟨rfl, Or.inl (⟨rfl, (lf_X8_takesNumber_10 hmp hmz hix c_1 c_2 hF_4_0)⟩)⟩, ⟨mk, mv, mb, mp, mwn_4, fr, va_Ht ht hX9.1, hX9.2, (lf_X8_takesNumber_6 hmp hmz hix c_1 c_2 hF_4_0), (fun h_ => absurd h_ (by decide)), (lf_X8_takesNumber_7 hmp hmz hix c_1 c_2 hF_4_0), (lf_X8_takesNumber_8 hmp hmz hix c_1 c_2 hF_4_0), (lf_X8_takesNumber_9 hmp hmz hix c_1 c_2 hF_4_0)⟩⟩, hS.F ht⟩) hS.2.2 dX8_takesNumber_40
  · skip
    refine lv_aload_n hx hb dX8_takesNumber_8 rfl (lv_at hl 0 rfl) ?_
    refine va_get (D := (dC, dI)) (ci := 8) (v := .int mv) (C := RX8) (T := TX8) (N := 24) hx hb hts i_X8_takesNumber_X8 hown hK hP 0 rfl rfl 12 (by decide) (hts _ mx_X8_takesNumber_2) (fun _ h9 => h9) rfl dX8_takesNumber_9 ?_
    refine lv_i2l hx hb dX8_takesNumber_12 rfl ?_
    refine lv_iload_n hx hb dX8_takesNumber_13 rfl (lv_at hl 1 rfl) ?_
    refine lv_i2l hx hb dX8_takesNumber_14 rfl ?_
    refine lv_iload_n hx hb dX8_takesNumber_15 rfl (lv_at hl 2 rfl) ?_
    refine lv_i2l hx hb dX8_takesNumber_16 rfl ?_
    have hPc_5 := hP.sub (ws' := []) [] rfl
    refine vp_callSi (W.runS (As := [.long (mv).toInt64, .long (lo).toInt64, .long (hi).toInt64]) (rest := []) ⟨hx, hb, hml, hown, hts⟩ (r_X8_in l dC dI cI cZ cL cJ ((mv).toInt64) ((lo).toInt64) ((hi).toInt64) ) (va_cwS 3 hts gX8_takesNumber_X8_in rfl rfl rfl (by decide +kernel) ⟨Nat.le_of_ble_eq_true rfl, Nat.le_of_ble_eq_true rfl⟩) (psP hK hPc_5) rfl rfl hl.1 rfl (lv_room (Nat.le_of_ble_eq_true rfl)) dX8_takesNumber_17 ⟨Nat.le_of_ble_eq_true rfl, Nat.le_of_ble_eq_true rfl⟩) (fun r_5 h_5 => ?_)
    rcases h_5 with ⟨h_5, f_5_0_0⟩ | ⟨h_5, f_5_1_0⟩
    · subst h_5
      refine lv_if_ne (tgt := 41) hx hb dX8_takesNumber_20 (by decide) (fun c_ => absurd (by decide) c_) (fun _ => ?_)
      refine lv_aload_n hx hb dX8_takesNumber_23 rfl (lv_at hl 0 rfl) ?_
      refine lv_aload_n hx hb dX8_takesNumber_24 rfl (lv_at hl 0 rfl) ?_
      refine va_get (D := (dC, dI)) (ci := 8) (v := .int mk) (C := RX8) (T := TX8) (N := 24) hx hb hts i_X8_takesNumber_X8 hown hK hP 0 rfl rfl 11 (by decide) (hts _ mx_X8_takesNumber_1) (fun _ h9 => h9) rfl dX8_takesNumber_25 ?_
      refine lv_iconst (v := 2) hx hb dX8_takesNumber_28 (by decide) ?_
      refine lv_icmp_ne (tgt := 36) hx hb dX8_takesNumber_29 (by decide) (fun c_7 => ?_) (fun c_7 => ?_)
      · skip
        refine lv_iconst (v := 1) hx hb dX8_takesNumber_36 (by decide) ?_
        have hc_8 := cutW (wc := [(xo_8_rrriirrriiiiiiirrirrrrri mo m_la m_sz m_it ms mt m_st m_mv m_tp (nI mz) ml (nI mp) mk mv mb mw m_rd m_ac (nI ma) m_as m_wo m_ik m_ke m_tr (nI mx))]) hP hD hS hA [0] (by decide +kernel) rfl
        refine va_calli (va_runV (As := [.int 1]) (rest := []) ⟨hx, hb, hml, hown, hts⟩ (r_X8_faults l dC dI cI cZ cL cJ s.heap.size mo m_la m_sz m_it m_st m_mv m_tp m_rd m_ac m_as m_wo m_ik m_ke m_tr ms mt ml mk mv mb mw mz mp ma mx 1 ) (cwV 1 hts gX8_takesNumber_X8_faults rfl rfl rfl (by decide +kernel) ⟨Nat.le_of_ble_eq_true rfl, Nat.le_of_ble_eq_true rfl⟩) (pvW 8 0 hK hP rfl rfl hc_8) rfl rfl hl.1 rfl (lv_room (Nat.le_of_ble_eq_true rfl)) dX8_takesNumber_37 ⟨Nat.le_of_ble_eq_true rfl, Nat.le_of_ble_eq_true rfl⟩) hS (fun q _ h => hc_8.2.2 q h) hc_8.2.2 (fun r_8 u_8 t_8 H1 locs ht hvm h_8 hB hz1 hk1 hS => ?_)
        refine xl_1_3 hB (fun mwn_8 hP1 hD1 hF_8_0 => ?_)
        clear hB
        rw [ht] at hP1
        obtain ⟨hP, hD⟩ := va_join (wr := [(xI m_tp cI 120 ft_), (xI m_rd cI 38 fr)]) (w1 := [(xo_8_rrriirrriiiiiiirrirrrrri mo m_la m_sz m_it ms mt m_st m_mv m_tp (nI mz) ml (nI mp) mk mv mb mwn_8 m_rd m_ac (nI ma) m_as m_wo m_ik m_ke m_tr (nI mx))]) hP hD [0] [1, 2] rfl rfl (by decide +kernel) (by decide +kernel) hk1 hc_8.2.2 hP1 hD1
        generalize H1 = H at hP hS ⊢
        have hP : va_P (dC, dI) vwCl [(xI m_tp cI 120 ft_), (xI m_rd cI 38 fr), (xo_8_rrriirrriiiiiiirrirrrrri mo m_la m_sz m_it ms mt m_st m_mv m_tp (nI mz) ml (nI mp) mk mv mb mwn_8 m_rd m_ac (nI ma) m_as m_wo m_ik m_ke m_tr (nI mx))] H := hP
        have hD := dto hP hD
        subst h_8
        have hX9 := cut2 (wc := [(xo_8_rrriirrriiiiiiirrirrrrri mo m_la m_sz m_it ms mt m_st m_mv m_tp (nI mz) ml (nI mp) mk mv mb mwn_8 m_rd m_ac (nI ma) m_as m_wo m_ik m_ke m_tr (nI mx)), (xI m_tp cI 120 ft_), (xI m_rd cI 38 fr)]) hP hD [2, 0, 1] (by decide +kernel) rfl
        exact W.zret (v := 0) hx hb hr (by decide) (fun t ht hW => ⟨⟨0, 0, rfl, ⟨rfl, Or.inl (⟨rfl, (lf_X8_takesNumber_15 hmp hmz hix c_1 f_5_0_0 c_7 hF_8_0)⟩)⟩, ⟨mk, mv, mb, mp, mwn_8, fr, va_Ht ht hX9.1, hX9.2, (lf_X8_takesNumber_11 hmp hmz hix c_1 f_5_0_0 c_7 hF_8_0), (fun h_ => absurd h_ (by decide)), (lf_X8_takesNumber_12 hmp hmz hix c_1 f_5_0_0 c_7 hF_8_0), (lf_X8_takesNumber_13 hmp hmz hix c_1 f_5_0_0 c_7 hF_8_0), (lf_X8_takesNumber_14 hmp hmz hix c_1 f_5_0_0 c_7 hF_8_0)⟩⟩, hS.F ht⟩) hS.2.2 dX8_takesNumber_40
      · skip
        refine lv_iconst (v := 2) hx hb dX8_takesNumber_32 (by decide) ?_
        refine lv_goto (tgt := 37) hx hb dX8_takesNumber_33 (by decide) ?_
        have hc_9 := cutW (wc := [(xo_8_rrriirrriiiiiiirrirrrrri mo m_la m_sz m_it ms mt m_st m_mv m_tp (nI mz) ml (nI mp) mk mv mb mw m_rd m_ac (nI ma) m_as m_wo m_ik m_ke m_tr (nI mx))]) hP hD hS hA [0] (by decide +kernel) rfl
        refine va_calli (va_runV (As := [.int 2]) (rest := []) ⟨hx, hb, hml, hown, hts⟩ (r_X8_faults l dC dI cI cZ cL cJ s.heap.size mo m_la m_sz m_it m_st m_mv m_tp m_rd m_ac m_as m_wo m_ik m_ke m_tr ms mt ml mk mv mb mw mz mp ma mx 2 ) (cwV 1 hts gX8_takesNumber_X8_faults rfl rfl rfl (by decide +kernel) ⟨Nat.le_of_ble_eq_true rfl, Nat.le_of_ble_eq_true rfl⟩) (pvW 8 0 hK hP rfl rfl hc_9) rfl rfl hl.1 rfl (lv_room (Nat.le_of_ble_eq_true rfl)) dX8_takesNumber_37 ⟨Nat.le_of_ble_eq_true rfl, Nat.le_of_ble_eq_true rfl⟩) hS (fun q _ h => hc_9.2.2 q h) hc_9.2.2 (fun r_9 u_9 t_9 H1 locs ht hvm h_9 hB hz1 hk1 hS => ?_)
        refine xl_1_3 hB (fun mwn_9 hP1 hD1 hF_9_0 => ?_)
        clear hB
        rw [ht] at hP1
        obtain ⟨hP, hD⟩ := va_join (wr := [(xI m_tp cI 120 ft_), (xI m_rd cI 38 fr)]) (w1 := [(xo_8_rrriirrriiiiiiirrirrrrri mo m_la m_sz m_it ms mt m_st m_mv m_tp (nI mz) ml (nI mp) mk mv mb mwn_9 m_rd m_ac (nI ma) m_as m_wo m_ik m_ke m_tr (nI mx))]) hP hD [0] [1, 2] rfl rfl (by decide +kernel) (by decide +kernel) hk1 hc_9.2.2 hP1 hD1
        generalize H1 = H at hP hS ⊢
        have hP : va_P (dC, dI) vwCl [(xI m_tp cI 120 ft_), (xI m_rd cI 38 fr), (xo_8_rrriirrriiiiiiirrirrrrri mo m_la m_sz m_it ms mt m_st m_mv m_tp (nI mz) ml (nI mp) mk mv mb mwn_9 m_rd m_ac (nI ma) m_as m_wo m_ik m_ke m_tr (nI mx))] H := hP
        have hD := dto hP hD
        subst h_9
        have hX9 := cut2 (wc := [(xo_8_rrriirrriiiiiiirrirrrrri mo m_la m_sz m_it ms mt m_st m_mv m_tp (nI mz) ml (nI mp) mk mv mb mwn_9 m_rd m_ac (nI ma) m_as m_wo m_ik m_ke m_tr (nI mx)), (xI m_tp cI 120 ft_), (xI m_rd cI 38 fr)]) hP hD [2, 0, 1] (by decide +kernel) rfl
        exact W.zret (v := 0) hx hb hr (by decide) (fun t ht hW => ⟨⟨0, 0, rfl, ⟨rfl, Or.inl (⟨rfl, (lf_X8_takesNumber_20 hmp hmz hix c_1 f_5_0_0 c_7 hF_9_0)⟩)⟩, ⟨mk, mv, mb, mp, mwn_9, fr, va_Ht ht hX9.1, hX9.2, (lf_X8_takesNumber_16 hmp hmz hix c_1 f_5_0_0 c_7 hF_9_0), (fun h_ => absurd h_ (by decide)), (lf_X8_takesNumber_17 hmp hmz hix c_1 f_5_0_0 c_7 hF_9_0), (lf_X8_takesNumber_18 hmp hmz hix c_1 f_5_0_0 c_7 hF_9_0), (lf_X8_takesNumber_19 hmp hmz hix c_1 f_5_0_0 c_7 hF_9_0)⟩⟩, hS.F ht⟩) hS.2.2 dX8_takesNumber_40
    · subst h_5
      refine lv_if_ne (tgt := 41) hx hb dX8_takesNumber_20 (by decide) (fun _ => ?_) (fun c_ => absurd c_ (by decide))
      refine lv_aload_n hx hb dX8_takesNumber_41 rfl (lv_at hl 0 rfl) ?_
      refine va_get (D := (dC, dI)) (ci := 8) (v := .ref m_rd) (C := RX8) (T := TX8) (N := 24) hx hb hts i_X8_takesNumber_X8 hown hK hP 0 rfl rfl 15 (by decide) (hts _ mx_X8_takesNumber_3) (fun _ h9 => h9) rfl dX8_takesNumber_42 ?_
      refine lv_iload_n hx hb dX8_takesNumber_45 rfl (lv_at hl 3 rfl) ?_
      refine lv_aload_n hx hb dX8_takesNumber_46 rfl (lv_at hl 0 rfl) ?_
      refine va_get (D := (dC, dI)) (ci := 8) (v := .int mv) (C := RX8) (T := TX8) (N := 24) hx hb hts i_X8_takesNumber_X8 hown hK hP 0 rfl rfl 12 (by decide) (hts _ mx_X8_takesNumber_2) (fun _ h9 => h9) rfl dX8_takesNumber_47 ?_
      refine va_iast hx hb hK hP hD hS 2 0 rfl rfl (vp_in_nI (by omega) (by omega)) dX8_takesNumber_50 (fun H locs hP hD hS => ?_)
      generalize hg_11 : upd fr ((nI ix) : Int32).toNatClampNeg mv = g_11 at hP hD
      have hu_11 : g_11 = upd fr ix mv := (by rw [← hg_11, nI_clamp (by omega)])
      have hP : va_P (dC, dI) vwCl [(xo_8_rrriirrriiiiiiirrirrrrri mo m_la m_sz m_it ms mt m_st m_mv m_tp (nI mz) ml (nI mp) mk mv mb mw m_rd m_ac (nI ma) m_as m_wo m_ik m_ke m_tr (nI mx)), (xI m_tp cI 120 ft_), (xI m_rd cI 38 g_11)] H := hP
      have hD := dto hP hD
      refine lv_aload_n hx hb dX8_takesNumber_51 rfl (lv_at hl 0 rfl) ?_
      have hc_12 := cutW (wc := [(xo_8_rrriirrriiiiiiirrirrrrri mo m_la m_sz m_it ms mt m_st m_mv m_tp (nI mz) ml (nI mp) mk mv mb mw m_rd m_ac (nI ma) m_as m_wo m_ik m_ke m_tr (nI mx)), (xI m_tp cI 120 ft_)]) hP hD hS hA [0, 1] (by decide +kernel) rfl
      refine va_callv (va_runV (As := []) (rest := []) ⟨hx, hb, hml, hown, hts⟩ (r_X8_nextToken l dC dI cI cZ cL cJ H.size mo m_la m_sz m_it m_st m_mv m_tp m_rd m_ac m_as m_wo m_ik m_ke m_tr ms mt ml mk mv mb mw mz mp ma mx ft_ (by omega) (hmz)) (cwV 0 hts gX8_takesNumber_X8_nextToken rfl rfl rfl (by decide +kernel) ⟨Nat.le_of_ble_eq_true rfl, Nat.le_of_ble_eq_true rfl⟩) (pvW 8 0 hK hP rfl rfl hc_12) rfl rfl hl.1 rfl (lv_room (Nat.le_of_ble_eq_true rfl)) dX8_takesNumber_52 ⟨Nat.le_of_ble_eq_true rfl, Nat.le_of_ble_eq_true rfl⟩) hS (fun q _ h => hc_12.2.2 q h) hc_12.2.2 (fun u_12 t_12 H1 locs ht hvm h_12 hB hz1 hk1 hS => ?_)
      refine xl_4_4 hB (fun mkn_12 mvn_12 mbn_12 mpn_12 hP1 hD1 hF_12_0 hF_12_1 => ?_)
      clear hB
      rw [ht] at hP1
      obtain ⟨hP, hD⟩ := va_join (wr := [(xI m_rd cI 38 g_11)]) (w1 := [(xo_8_rrriirrriiiiiiirrirrrrri mo m_la m_sz m_it ms mt m_st m_mv m_tp (nI mz) ml (nI mpn_12) mkn_12 mvn_12 mbn_12 mw m_rd m_ac (nI ma) m_as m_wo m_ik m_ke m_tr (nI mx)), (xI m_tp cI 120 ft_)]) hP hD [0, 1] [2] rfl rfl (by decide +kernel) (by decide +kernel) hk1 hc_12.2.2 hP1 hD1
      generalize H1 = H at hP hS ⊢
      have hP : va_P (dC, dI) vwCl [(xI m_rd cI 38 g_11), (xo_8_rrriirrriiiiiiirrirrrrri mo m_la m_sz m_it ms mt m_st m_mv m_tp (nI mz) ml (nI mpn_12) mkn_12 mvn_12 mbn_12 mw m_rd m_ac (nI ma) m_as m_wo m_ik m_ke m_tr (nI mx)), (xI m_tp cI 120 ft_)] H := hP
      have hD := dto hP hD
      refine lv_aload_n hx hb dX8_takesNumber_55 rfl (lv_at hl 0 rfl) ?_
      refine lv_iload hx hb dX8_takesNumber_56 (lv_at hl 4 rfl) ?_
      have hc_13 := cutW (wc := [(xo_8_rrriirrriiiiiiirrirrrrri mo m_la m_sz m_it ms mt m_st m_mv m_tp (nI mz) ml (nI mpn_12) mkn_12 mvn_12 mbn_12 mw m_rd m_ac (nI ma) m_as m_wo m_ik m_ke m_tr (nI mx)), (xI m_tp cI 120 ft_)]) hP hD hS hA [1, 2] (by decide +kernel) rfl
      refine va_calli (va_runV (As := [.int n]) (rest := []) ⟨hx, hb, hml, hown, hts⟩ (r_X8_takes l dC dI cI cZ cL cJ H.size mo m_la m_sz m_it m_st m_mv m_tp m_rd m_ac m_as m_wo m_ik m_ke m_tr ms mt ml mkn_12 mvn_12 mbn_12 mw mz mpn_12 ma mx ft_ n (by omega) (hmz)) (cwV 1 hts gX8_takesNumber_X8_takes rfl rfl rfl (by decide +kernel) ⟨Nat.le_of_ble_eq_true rfl, Nat.le_of_ble_eq_true rfl⟩) (pvW 8 1 hK hP rfl rfl hc_13) rfl rfl hl.1 rfl (lv_room (Nat.le_of_ble_eq_true rfl)) dX8_takesNumber_58 ⟨Nat.le_of_ble_eq_true rfl, Nat.le_of_ble_eq_true rfl⟩) hS (fun q _ h => hc_13.2.2 q h) hc_13.2.2 (fun r_13 u_13 t_13 H1 locs ht hvm h_13 hB hz1 hk1 hS => ?_)
      refine xl_5_5 hB (fun mkn_13 mvn_13 mbn_13 mpn_13 mwn_13 hP1 hD1 hF_13_0 hF_13_1 hF_13_2 => ?_)
      clear hB
      rw [ht] at hP1
      obtain ⟨hP, hD⟩ := va_join (wr := [(xI m_rd cI 38 g_11)]) (w1 := [(xo_8_rrriirrriiiiiiirrirrrrri mo m_la m_sz m_it ms mt m_st m_mv m_tp (nI mz) ml (nI mpn_13) mkn_13 mvn_13 mbn_13 mwn_13 m_rd m_ac (nI ma) m_as m_wo m_ik m_ke m_tr (nI mx)), (xI m_tp cI 120 ft_)]) hP hD [1, 2] [0] rfl rfl (by decide +kernel) (by decide +kernel) hk1 hc_13.2.2 hP1 hD1
      generalize H1 = H at hP hS ⊢
      have hP : va_P (dC, dI) vwCl [(xI m_rd cI 38 g_11), (xo_8_rrriirrriiiiiiirrirrrrri mo m_la m_sz m_it ms mt m_st m_mv m_tp (nI mz) ml (nI mpn_13) mkn_13 mvn_13 mbn_13 mwn_13 m_rd m_ac (nI ma) m_as m_wo m_ik m_ke m_tr (nI mx)), (xI m_tp cI 120 ft_)] H := hP
      have hD := dto hP hD
      rcases h_13 with ⟨h_13, f_13_0_0⟩ | ⟨h_13, f_13_1_0⟩
      · subst h_13
        have hX9 := cut2 (wc := [(xo_8_rrriirrriiiiiiirrirrrrri mo m_la m_sz m_it ms mt m_st m_mv m_tp (nI mz) ml (nI mpn_13) mkn_13 mvn_13 mbn_13 mwn_13 m_rd m_ac (nI ma) m_as m_wo m_ik m_ke m_tr (nI mx)), (xI m_tp cI 120 ft_), (xI m_rd cI 38 g_11)]) hP hD [1, 2, 0] (by decide +kernel) rfl
        exact W.zret (v := 0) hx hb hr (by decide) (fun t ht hW => ⟨⟨0, 0, rfl, ⟨rfl, Or.inl (⟨rfl, (lf_X8_takesNumber_25 hmp hmz hix c_1 f_5_1_0 hu_11 hF_12_0 hF_12_1 hF_13_0 hF_13_1 hF_13_2 f_13_0_0)⟩)⟩, ⟨mkn_13, mvn_13, mbn_13, mpn_13, mwn_13, g_11, va_Ht ht hX9.1, hX9.2, (lf_X8_takesNumber_21 hmp hmz hix c_1 f_5_1_0 hu_11 hF_12_0 hF_12_1 hF_13_0 hF_13_1 hF_13_2 f_13_0_0), (fun h_ => absurd h_ (by decide)), (lf_X8_takesNumber_22 hmp hmz hix c_1 f_5_1_0 hu_11 hF_12_0 hF_12_1 hF_13_0 hF_13_1 hF_13_2 f_13_0_0), (lf_X8_takesNumber_23 hmp hmz hix c_1 f_5_1_0 hu_11 hF_12_0 hF_12_1 hF_13_0 hF_13_1 hF_13_2 f_13_0_0), (lf_X8_takesNumber_24 hmp hmz hix c_1 f_5_1_0 hu_11 hF_12_0 hF_12_1 hF_13_0 hF_13_1 hF_13_2 f_13_0_0)⟩⟩, hS.F ht⟩) hS.2.2 dX8_takesNumber_61
      · subst h_13
        have hX9 := cut2 (wc := [(xo_8_rrriirrriiiiiiirrirrrrri mo m_la m_sz m_it ms mt m_st m_mv m_tp (nI mz) ml (nI mpn_13) mkn_13 mvn_13 mbn_13 mwn_13 m_rd m_ac (nI ma) m_as m_wo m_ik m_ke m_tr (nI mx)), (xI m_tp cI 120 ft_), (xI m_rd cI 38 g_11)]) hP hD [1, 2, 0] (by decide +kernel) rfl
        exact W.zret (v := 1) hx hb hr (by decide) (fun t ht hW => ⟨⟨1, 1, rfl, ⟨rfl, Or.inr (⟨rfl, (lf_X8_takesNumber_30 hmp hmz hix c_1 f_5_1_0 hu_11 hF_12_0 hF_12_1 hF_13_0 hF_13_1 hF_13_2 f_13_1_0)⟩)⟩, ⟨mkn_13, mvn_13, mbn_13, mpn_13, mwn_13, g_11, va_Ht ht hX9.1, hX9.2, (lf_X8_takesNumber_26 hmp hmz hix c_1 f_5_1_0 hu_11 hF_12_0 hF_12_1 hF_13_0 hF_13_1 hF_13_2 f_13_1_0), (fun _ => ⟨mv, by rw [nI_clamp (by omega)] at hg_11; exact hg_11, f_5_1_0⟩), (lf_X8_takesNumber_27 hmp hmz hix c_1 f_5_1_0 hu_11 hF_12_0 hF_12_1 hF_13_0 hF_13_1 hF_13_2 f_13_1_0), (lf_X8_takesNumber_28 hmp hmz hix c_1 f_5_1_0 hu_11 hF_12_0 hF_12_1 hF_13_0 hF_13_1 hF_13_2 f_13_1_0), (lf_X8_takesNumber_29 hmp hmz hix c_1 f_5_1_0 hu_11 hF_12_0 hF_12_1 hF_13_0 hF_13_1 hF_13_2 f_13_1_0)⟩⟩, hS.F ht⟩) hS.2.2 dX8_takesNumber_61
theorem lf_X8_readWind_1 {mk : Int32} {mv : Int32} {mb : Int32} {mz : Nat} {mp : Nat} {ft_ : Nat → Int32} {fr : Nat → Int32} {c9 : Nat} {w9 : Nat} {k9 : Nat} {mwn_4 : Int32} (hmp : mp ≤ mz) (hmz : mz ≤ 120) (hR : okR fr c9 w9 k9 k9) (c_2 : ¬ (mk = 1)) (c_3 : ¬ (mk = 1)) (hF_4_0 : mwn_4 = 1) : wS ft_ mz ((mk, mv, mb, mp), m38 fr) = ((mk, mv, mb, mp), m38 fr) := by
  have a3 : m38 fr 3 = nI w9 := (m38_at (by decide)).trans hR.2.2.1
  have a4 : m38 fr 4 = nI k9 := (m38_at (by decide)).trans hR.2.2.2.2.1
  have a0 : m38 fr 0 = nI c9 := (m38_at (by decide)).trans hR.1
  have b3 : (nI w9).toNatClampNeg = w9 := nI_clamp (Nat.lt_of_le_of_lt hR.2.2.2.1 (by decide))
  have b4 : (nI k9).toNatClampNeg = k9 := nI_clamp (Nat.lt_of_le_of_lt hR.2.2.2.2.2.1 (by decide))
  have d3 : nI w9 = 6 ↔ w9 = 6 := nI_eq (b := 6) (Nat.lt_of_le_of_lt hR.2.2.2.1 (by decide)) (by decide)
  have d4 : nI k9 = 6 ↔ k9 = 6 := nI_eq (b := 6) (Nat.lt_of_le_of_lt hR.2.2.2.2.2.1 (by decide)) (by decide)
  have s3 : nI w9 + 1 = nI (w9 + 1) := nI_add w9 1
  have s4 : nI k9 + 1 = nI (k9 + 1) := nI_add k9 1
  have u3 := m38_up (f := fr) (i := 3) (v := nI (w9 + 1)) (by decide)
  simp only [wS, wE, wGG, wG0, uT, kG, a3, b3, d3, s3] at *
  grind
theorem lf_X8_readWind_2 {mk : Int32} {mv : Int32} {mb : Int32} {mz : Nat} {mp : Nat} {ft_ : Nat → Int32} {fr : Nat → Int32} {c9 : Nat} {w9 : Nat} {k9 : Nat} {mwn_4 : Int32} (hmp : mp ≤ mz) (hmz : mz ≤ 120) (hR : okR fr c9 w9 k9 k9) (c_2 : ¬ (mk = 1)) (c_3 : ¬ (mk = 1)) (hF_4_0 : mwn_4 = 1) : (¬ wGG ft_ mz ((mk, mv, mb, mp), m38 fr) → mwn_4 = wE ft_ mz ((mk, mv, mb, mp), m38 fr)) := by
  have a3 : m38 fr 3 = nI w9 := (m38_at (by decide)).trans hR.2.2.1
  have a4 : m38 fr 4 = nI k9 := (m38_at (by decide)).trans hR.2.2.2.2.1
  have a0 : m38 fr 0 = nI c9 := (m38_at (by decide)).trans hR.1
  have b3 : (nI w9).toNatClampNeg = w9 := nI_clamp (Nat.lt_of_le_of_lt hR.2.2.2.1 (by decide))
  have b4 : (nI k9).toNatClampNeg = k9 := nI_clamp (Nat.lt_of_le_of_lt hR.2.2.2.2.2.1 (by decide))
  have d3 : nI w9 = 6 ↔ w9 = 6 := nI_eq (b := 6) (Nat.lt_of_le_of_lt hR.2.2.2.1 (by decide)) (by decide)
  have d4 : nI k9 = 6 ↔ k9 = 6 := nI_eq (b := 6) (Nat.lt_of_le_of_lt hR.2.2.2.2.2.1 (by decide)) (by decide)
  have s3 : nI w9 + 1 = nI (w9 + 1) := nI_add w9 1
  have s4 : nI k9 + 1 = nI (k9 + 1) := nI_add k9 1
  have u3 := m38_up (f := fr) (i := 3) (v := nI (w9 + 1)) (by decide)
  simp only [wS, wE, wGG, wG0, uT, kG, a3, b3, d3, s3] at *
  grind
theorem lf_X8_readWind_3 {mk : Int32} {mv : Int32} {mb : Int32} {mz : Nat} {mp : Nat} {ft_ : Nat → Int32} {fr : Nat → Int32} {c9 : Nat} {w9 : Nat} {k9 : Nat} {mwn_4 : Int32} (hmp : mp ≤ mz) (hmz : mz ≤ 120) (hR : okR fr c9 w9 k9 k9) (c_2 : ¬ (mk = 1)) (c_3 : ¬ (mk = 1)) (hF_4_0 : mwn_4 = 1) : ¬ wGG ft_ mz ((mk, mv, mb, mp), m38 fr) := by
  have a3 : m38 fr 3 = nI w9 := (m38_at (by decide)).trans hR.2.2.1
  have a4 : m38 fr 4 = nI k9 := (m38_at (by decide)).trans hR.2.2.2.2.1
  have a0 : m38 fr 0 = nI c9 := (m38_at (by decide)).trans hR.1
  have b3 : (nI w9).toNatClampNeg = w9 := nI_clamp (Nat.lt_of_le_of_lt hR.2.2.2.1 (by decide))
  have b4 : (nI k9).toNatClampNeg = k9 := nI_clamp (Nat.lt_of_le_of_lt hR.2.2.2.2.2.1 (by decide))
  have d3 : nI w9 = 6 ↔ w9 = 6 := nI_eq (b := 6) (Nat.lt_of_le_of_lt hR.2.2.2.1 (by decide)) (by decide)
  have d4 : nI k9 = 6 ↔ k9 = 6 := nI_eq (b := 6) (Nat.lt_of_le_of_lt hR.2.2.2.2.2.1 (by decide)) (by decide)
  have s3 : nI w9 + 1 = nI (w9 + 1) := nI_add w9 1
  have s4 : nI k9 + 1 = nI (k9 + 1) := nI_add k9 1
  have u3 := m38_up (f := fr) (i := 3) (v := nI (w9 + 1)) (by decide)
  simp only [wS, wE, wGG, wG0, uT, kG, a3, b3, d3, s3] at *
  grind
theorem lf_X8_readWind_4 {mk : Int32} {mv : Int32} {mb : Int32} {mz : Nat} {mp : Nat} {ft_ : Nat → Int32} {fr : Nat → Int32} {c9 : Nat} {w9 : Nat} {k9 : Nat} {mwn_6 : Int32} (hmp : mp ≤ mz) (hmz : mz ≤ 120) (hR : okR fr c9 w9 k9 k9) (c_2 : ¬ (mk = 1)) (c_3 : mk = 1) (c_5 : ¬ (mv = 119)) (hF_6_0 : mwn_6 = 1) : wS ft_ mz ((mk, mv, mb, mp), m38 fr) = ((mk, mv, mb, mp), m38 fr) := by
  exact absurd c_3 c_2
theorem lf_X8_readWind_5 {mk : Int32} {mv : Int32} {mb : Int32} {mz : Nat} {mp : Nat} {ft_ : Nat → Int32} {fr : Nat → Int32} {c9 : Nat} {w9 : Nat} {k9 : Nat} {mwn_6 : Int32} (hmp : mp ≤ mz) (hmz : mz ≤ 120) (hR : okR fr c9 w9 k9 k9) (c_2 : ¬ (mk = 1)) (c_3 : mk = 1) (c_5 : ¬ (mv = 119)) (hF_6_0 : mwn_6 = 1) : (¬ wGG ft_ mz ((mk, mv, mb, mp), m38 fr) → mwn_6 = wE ft_ mz ((mk, mv, mb, mp), m38 fr)) := by
  exact absurd c_3 c_2
theorem lf_X8_readWind_6 {mk : Int32} {mv : Int32} {mb : Int32} {mz : Nat} {mp : Nat} {ft_ : Nat → Int32} {fr : Nat → Int32} {c9 : Nat} {w9 : Nat} {k9 : Nat} {mwn_6 : Int32} (hmp : mp ≤ mz) (hmz : mz ≤ 120) (hR : okR fr c9 w9 k9 k9) (c_2 : ¬ (mk = 1)) (c_3 : mk = 1) (c_5 : ¬ (mv = 119)) (hF_6_0 : mwn_6 = 1) : ¬ wGG ft_ mz ((mk, mv, mb, mp), m38 fr) := by
  exact absurd c_3 c_2
theorem lf_X8_readWind_7 {mk : Int32} {mv : Int32} {mb : Int32} {mz : Nat} {mp : Nat} {ft_ : Nat → Int32} {fr : Nat → Int32} {c9 : Nat} {w9 : Nat} {k9 : Nat} {mwn_7 : Int32} (hmp : mp ≤ mz) (hmz : mz ≤ 120) (hR : okR fr c9 w9 k9 k9) (c_2 : ¬ (mk = 1)) (c_3 : mk = 1) (c_5 : mv = 119) (hF_7_0 : mwn_7 = 3) : wS ft_ mz ((mk, mv, mb, mp), m38 fr) = ((mk, mv, mb, mp), m38 fr) := by
  exact absurd c_3 c_2
theorem lf_X8_readWind_8 {mk : Int32} {mv : Int32} {mb : Int32} {mz : Nat} {mp : Nat} {ft_ : Nat → Int32} {fr : Nat → Int32} {c9 : Nat} {w9 : Nat} {k9 : Nat} {mwn_7 : Int32} (hmp : mp ≤ mz) (hmz : mz ≤ 120) (hR : okR fr c9 w9 k9 k9) (c_2 : ¬ (mk = 1)) (c_3 : mk = 1) (c_5 : mv = 119) (hF_7_0 : mwn_7 = 3) : (¬ wGG ft_ mz ((mk, mv, mb, mp), m38 fr) → mwn_7 = wE ft_ mz ((mk, mv, mb, mp), m38 fr)) := by
  exact absurd c_3 c_2
theorem lf_X8_readWind_9 {mk : Int32} {mv : Int32} {mb : Int32} {mz : Nat} {mp : Nat} {ft_ : Nat → Int32} {fr : Nat → Int32} {c9 : Nat} {w9 : Nat} {k9 : Nat} {mwn_7 : Int32} (hmp : mp ≤ mz) (hmz : mz ≤ 120) (hR : okR fr c9 w9 k9 k9) (c_2 : ¬ (mk = 1)) (c_3 : mk = 1) (c_5 : mv = 119) (hF_7_0 : mwn_7 = 3) : ¬ wGG ft_ mz ((mk, mv, mb, mp), m38 fr) := by
  exact absurd c_3 c_2
theorem lf_X8_readWind_10 {mk : Int32} {mv : Int32} {mb : Int32} {mz : Nat} {mp : Nat} {ft_ : Nat → Int32} {fr : Nat → Int32} {c9 : Nat} {w9 : Nat} {k9 : Nat} {mwn_10 : Int32} (hmp : mp ≤ mz) (hmz : mz ≤ 120) (hR : okR fr c9 w9 k9 k9) (c_2 : mk = 1) (c_8 : ¬ (mv = 119)) (c_9 : ¬ (mk = 1)) (hF_10_0 : mwn_10 = 1) : wS ft_ mz ((mk, mv, mb, mp), m38 fr) = ((mk, mv, mb, mp), m38 fr) := by
  exact absurd c_2 c_9
theorem lf_X8_readWind_11 {mk : Int32} {mv : Int32} {mb : Int32} {mz : Nat} {mp : Nat} {ft_ : Nat → Int32} {fr : Nat → Int32} {c9 : Nat} {w9 : Nat} {k9 : Nat} {mwn_10 : Int32} (hmp : mp ≤ mz) (hmz : mz ≤ 120) (hR : okR fr c9 w9 k9 k9) (c_2 : mk = 1) (c_8 : ¬ (mv = 119)) (c_9 : ¬ (mk = 1)) (hF_10_0 : mwn_10 = 1) : (¬ wGG ft_ mz ((mk, mv, mb, mp), m38 fr) → mwn_10 = wE ft_ mz ((mk, mv, mb, mp), m38 fr)) := by
  exact absurd c_2 c_9
theorem lf_X8_readWind_12 {mk : Int32} {mv : Int32} {mb : Int32} {mz : Nat} {mp : Nat} {ft_ : Nat → Int32} {fr : Nat → Int32} {c9 : Nat} {w9 : Nat} {k9 : Nat} {mwn_10 : Int32} (hmp : mp ≤ mz) (hmz : mz ≤ 120) (hR : okR fr c9 w9 k9 k9) (c_2 : mk = 1) (c_8 : ¬ (mv = 119)) (c_9 : ¬ (mk = 1)) (hF_10_0 : mwn_10 = 1) : ¬ wGG ft_ mz ((mk, mv, mb, mp), m38 fr) := by
  exact absurd c_2 c_9
theorem lf_X8_readWind_13 {mk : Int32} {mv : Int32} {mb : Int32} {mz : Nat} {mp : Nat} {ft_ : Nat → Int32} {fr : Nat → Int32} {c9 : Nat} {w9 : Nat} {k9 : Nat} {mwn_12 : Int32} (hmp : mp ≤ mz) (hmz : mz ≤ 120) (hR : okR fr c9 w9 k9 k9) (c_2 : mk = 1) (c_8 : ¬ (mv = 119)) (c_9 : mk = 1) (c_11 : ¬ (mv = 119)) (hF_12_0 : mwn_12 = 1) : wS ft_ mz ((mk, mv, mb, mp), m38 fr) = ((mk, mv, mb, mp), m38 fr) := by
  have a3 : m38 fr 3 = nI w9 := (m38_at (by decide)).trans hR.2.2.1
  have a4 : m38 fr 4 = nI k9 := (m38_at (by decide)).trans hR.2.2.2.2.1
  have a0 : m38 fr 0 = nI c9 := (m38_at (by decide)).trans hR.1
  have b3 : (nI w9).toNatClampNeg = w9 := nI_clamp (Nat.lt_of_le_of_lt hR.2.2.2.1 (by decide))
  have b4 : (nI k9).toNatClampNeg = k9 := nI_clamp (Nat.lt_of_le_of_lt hR.2.2.2.2.2.1 (by decide))
  have d3 : nI w9 = 6 ↔ w9 = 6 := nI_eq (b := 6) (Nat.lt_of_le_of_lt hR.2.2.2.1 (by decide)) (by decide)
  have d4 : nI k9 = 6 ↔ k9 = 6 := nI_eq (b := 6) (Nat.lt_of_le_of_lt hR.2.2.2.2.2.1 (by decide)) (by decide)
  have s3 : nI w9 + 1 = nI (w9 + 1) := nI_add w9 1
  have s4 : nI k9 + 1 = nI (k9 + 1) := nI_add k9 1
  have u3 := m38_up (f := fr) (i := 3) (v := nI (w9 + 1)) (by decide)
  simp only [wS, wE, wGG, wG0, uT, kG, a3, b3, d3, s3] at *
  grind
theorem lf_X8_readWind_14 {mk : Int32} {mv : Int32} {mb : Int32} {mz : Nat} {mp : Nat} {ft_ : Nat → Int32} {fr : Nat → Int32} {c9 : Nat} {w9 : Nat} {k9 : Nat} {mwn_12 : Int32} (hmp : mp ≤ mz) (hmz : mz ≤ 120) (hR : okR fr c9 w9 k9 k9) (c_2 : mk = 1) (c_8 : ¬ (mv = 119)) (c_9 : mk = 1) (c_11 : ¬ (mv = 119)) (hF_12_0 : mwn_12 = 1) : (¬ wGG ft_ mz ((mk, mv, mb, mp), m38 fr) → mwn_12 = wE ft_ mz ((mk, mv, mb, mp), m38 fr)) := by
  have a3 : m38 fr 3 = nI w9 := (m38_at (by decide)).trans hR.2.2.1
  have a4 : m38 fr 4 = nI k9 := (m38_at (by decide)).trans hR.2.2.2.2.1
  have a0 : m38 fr 0 = nI c9 := (m38_at (by decide)).trans hR.1
  have b3 : (nI w9).toNatClampNeg = w9 := nI_clamp (Nat.lt_of_le_of_lt hR.2.2.2.1 (by decide))
  have b4 : (nI k9).toNatClampNeg = k9 := nI_clamp (Nat.lt_of_le_of_lt hR.2.2.2.2.2.1 (by decide))
  have d3 : nI w9 = 6 ↔ w9 = 6 := nI_eq (b := 6) (Nat.lt_of_le_of_lt hR.2.2.2.1 (by decide)) (by decide)
  have d4 : nI k9 = 6 ↔ k9 = 6 := nI_eq (b := 6) (Nat.lt_of_le_of_lt hR.2.2.2.2.2.1 (by decide)) (by decide)
  have s3 : nI w9 + 1 = nI (w9 + 1) := nI_add w9 1
  have s4 : nI k9 + 1 = nI (k9 + 1) := nI_add k9 1
  have u3 := m38_up (f := fr) (i := 3) (v := nI (w9 + 1)) (by decide)
  simp only [wS, wE, wGG, wG0, uT, kG, a3, b3, d3, s3] at *
  grind
theorem lf_X8_readWind_15 {mk : Int32} {mv : Int32} {mb : Int32} {mz : Nat} {mp : Nat} {ft_ : Nat → Int32} {fr : Nat → Int32} {c9 : Nat} {w9 : Nat} {k9 : Nat} {mwn_12 : Int32} (hmp : mp ≤ mz) (hmz : mz ≤ 120) (hR : okR fr c9 w9 k9 k9) (c_2 : mk = 1) (c_8 : ¬ (mv = 119)) (c_9 : mk = 1) (c_11 : ¬ (mv = 119)) (hF_12_0 : mwn_12 = 1) : ¬ wGG ft_ mz ((mk, mv, mb, mp), m38 fr) := by
  have a3 : m38 fr 3 = nI w9 := (m38_at (by decide)).trans hR.2.2.1
  have a4 : m38 fr 4 = nI k9 := (m38_at (by decide)).trans hR.2.2.2.2.1
  have a0 : m38 fr 0 = nI c9 := (m38_at (by decide)).trans hR.1
  have b3 : (nI w9).toNatClampNeg = w9 := nI_clamp (Nat.lt_of_le_of_lt hR.2.2.2.1 (by decide))
  have b4 : (nI k9).toNatClampNeg = k9 := nI_clamp (Nat.lt_of_le_of_lt hR.2.2.2.2.2.1 (by decide))
  have d3 : nI w9 = 6 ↔ w9 = 6 := nI_eq (b := 6) (Nat.lt_of_le_of_lt hR.2.2.2.1 (by decide)) (by decide)
  have d4 : nI k9 = 6 ↔ k9 = 6 := nI_eq (b := 6) (Nat.lt_of_le_of_lt hR.2.2.2.2.2.1 (by decide)) (by decide)
  have s3 : nI w9 + 1 = nI (w9 + 1) := nI_add w9 1
  have s4 : nI k9 + 1 = nI (k9 + 1) := nI_add k9 1
  have u3 := m38_up (f := fr) (i := 3) (v := nI (w9 + 1)) (by decide)
  simp only [wS, wE, wGG, wG0, uT, kG, a3, b3, d3, s3] at *
  grind
theorem lf_X8_readWind_16 {mk : Int32} {mv : Int32} {mb : Int32} {mz : Nat} {mp : Nat} {ft_ : Nat → Int32} {fr : Nat → Int32} {c9 : Nat} {w9 : Nat} {k9 : Nat} {mwn_13 : Int32} (hmp : mp ≤ mz) (hmz : mz ≤ 120) (hR : okR fr c9 w9 k9 k9) (c_2 : mk = 1) (c_8 : ¬ (mv = 119)) (c_9 : mk = 1) (c_11 : mv = 119) (hF_13_0 : mwn_13 = 3) : wS ft_ mz ((mk, mv, mb, mp), m38 fr) = ((mk, mv, mb, mp), m38 fr) := by
  exact absurd c_11 c_8
theorem lf_X8_readWind_17 {mk : Int32} {mv : Int32} {mb : Int32} {mz : Nat} {mp : Nat} {ft_ : Nat → Int32} {fr : Nat → Int32} {c9 : Nat} {w9 : Nat} {k9 : Nat} {mwn_13 : Int32} (hmp : mp ≤ mz) (hmz : mz ≤ 120) (hR : okR fr c9 w9 k9 k9) (c_2 : mk = 1) (c_8 : ¬ (mv = 119)) (c_9 : mk = 1) (c_11 : mv = 119) (hF_13_0 : mwn_13 = 3) : (¬ wGG ft_ mz ((mk, mv, mb, mp), m38 fr) → mwn_13 = wE ft_ mz ((mk, mv, mb, mp), m38 fr)) := by
  exact absurd c_11 c_8
theorem lf_X8_readWind_18 {mk : Int32} {mv : Int32} {mb : Int32} {mz : Nat} {mp : Nat} {ft_ : Nat → Int32} {fr : Nat → Int32} {c9 : Nat} {w9 : Nat} {k9 : Nat} {mwn_13 : Int32} (hmp : mp ≤ mz) (hmz : mz ≤ 120) (hR : okR fr c9 w9 k9 k9) (c_2 : mk = 1) (c_8 : ¬ (mv = 119)) (c_9 : mk = 1) (c_11 : mv = 119) (hF_13_0 : mwn_13 = 3) : ¬ wGG ft_ mz ((mk, mv, mb, mp), m38 fr) := by
  exact absurd c_11 c_8
theorem lf_X8_readWind_19 {mk : Int32} {mv : Int32} {mb : Int32} {mz : Nat} {mp : Nat} {ft_ : Nat → Int32} {fr : Nat → Int32} {c9 : Nat} {w9 : Nat} {k9 : Nat} {mkn_15 : Int32} {mvn_15 : Int32} {mbn_15 : Int32} {mpn_15 : Nat} {g_18 : Nat → Int32} {mkn_20 : Int32} {mvn_20 : Int32} {mbn_20 : Int32} {mpn_20 : Nat} {mwn_20 : Int32} {frn_20 : Nat → Int32} (hmp : mp ≤ mz) (hmz : mz ≤ 120) (hR : okR fr c9 w9 k9 k9) (c_2 : mk = 1) (c_8 : mv = 119) (c_14 : ¬ (w9 = 6)) (hF_15_0 : mpn_15 ≤ mz) (hF_15_1 : nT ft_ mz mp = (mkn_15, mvn_15, mbn_15, mpn_15)) (hu_18 : g_18 = upd fr 3 (nI (w9 + 1))) (hF_20_0 : mpn_20 ≤ mz) (hF_20_2 : nU ft_ mz 0 4 59 (mkn_15, mvn_15, mbn_15, mpn_15) = (mkn_20, mvn_20, mbn_20, mpn_20)) (hF_20_3 : m38 frn_20 = nR 0 4 (8 + w9) (mkn_15, mvn_15, mbn_15, mpn_15) (m38 g_18)) (hF_20_4 : (¬ nGG ft_ mz 0 4 59 (mkn_15, mvn_15, mbn_15, mpn_15) → mwn_20 = nE 0 4 (mkn_15, mvn_15, mbn_15, mpn_15))) (f_20_0_0 : ¬ nGG ft_ mz 0 4 59 (mkn_15, mvn_15, mbn_15, mpn_15)) : wS ft_ mz ((mk, mv, mb, mp), m38 fr) = ((mkn_20, mvn_20, mbn_20, mpn_20), m38 frn_20) := by
  have a3 : m38 fr 3 = nI w9 := (m38_at (by decide)).trans hR.2.2.1
  have a4 : m38 fr 4 = nI k9 := (m38_at (by decide)).trans hR.2.2.2.2.1
  have a0 : m38 fr 0 = nI c9 := (m38_at (by decide)).trans hR.1
  have b3 : (nI w9).toNatClampNeg = w9 := nI_clamp (Nat.lt_of_le_of_lt hR.2.2.2.1 (by decide))
  have b4 : (nI k9).toNatClampNeg = k9 := nI_clamp (Nat.lt_of_le_of_lt hR.2.2.2.2.2.1 (by decide))
  have d3 : nI w9 = 6 ↔ w9 = 6 := nI_eq (b := 6) (Nat.lt_of_le_of_lt hR.2.2.2.1 (by decide)) (by decide)
  have d4 : nI k9 = 6 ↔ k9 = 6 := nI_eq (b := 6) (Nat.lt_of_le_of_lt hR.2.2.2.2.2.1 (by decide)) (by decide)
  have s3 : nI w9 + 1 = nI (w9 + 1) := nI_add w9 1
  have s4 : nI k9 + 1 = nI (k9 + 1) := nI_add k9 1
  have u3 := m38_up (f := fr) (i := 3) (v := nI (w9 + 1)) (by decide)
  simp only [wS, wE, wGG, wG0, uT, kG, a3, b3, d3, s3] at *
  grind
theorem lf_X8_readWind_20 {mk : Int32} {mv : Int32} {mb : Int32} {mz : Nat} {mp : Nat} {ft_ : Nat → Int32} {fr : Nat → Int32} {c9 : Nat} {w9 : Nat} {k9 : Nat} {mkn_15 : Int32} {mvn_15 : Int32} {mbn_15 : Int32} {mpn_15 : Nat} {g_18 : Nat → Int32} {mkn_20 : Int32} {mvn_20 : Int32} {mbn_20 : Int32} {mpn_20 : Nat} {mwn_20 : Int32} {frn_20 : Nat → Int32} (hmp : mp ≤ mz) (hmz : mz ≤ 120) (hR : okR fr c9 w9 k9 k9) (c_2 : mk = 1) (c_8 : mv = 119) (c_14 : ¬ (w9 = 6)) (hF_15_0 : mpn_15 ≤ mz) (hF_15_1 : nT ft_ mz mp = (mkn_15, mvn_15, mbn_15, mpn_15)) (hu_18 : g_18 = upd fr 3 (nI (w9 + 1))) (hF_20_0 : mpn_20 ≤ mz) (hF_20_2 : nU ft_ mz 0 4 59 (mkn_15, mvn_15, mbn_15, mpn_15) = (mkn_20, mvn_20, mbn_20, mpn_20)) (hF_20_3 : m38 frn_20 = nR 0 4 (8 + w9) (mkn_15, mvn_15, mbn_15, mpn_15) (m38 g_18)) (hF_20_4 : (¬ nGG ft_ mz 0 4 59 (mkn_15, mvn_15, mbn_15, mpn_15) → mwn_20 = nE 0 4 (mkn_15, mvn_15, mbn_15, mpn_15))) (f_20_0_0 : ¬ nGG ft_ mz 0 4 59 (mkn_15, mvn_15, mbn_15, mpn_15)) : (¬ wGG ft_ mz ((mk, mv, mb, mp), m38 fr) → mwn_20 = wE ft_ mz ((mk, mv, mb, mp), m38 fr)) := by
  have a3 : m38 fr 3 = nI w9 := (m38_at (by decide)).trans hR.2.2.1
  have a4 : m38 fr 4 = nI k9 := (m38_at (by decide)).trans hR.2.2.2.2.1
  have a0 : m38 fr 0 = nI c9 := (m38_at (by decide)).trans hR.1
  have b3 : (nI w9).toNatClampNeg = w9 := nI_clamp (Nat.lt_of_le_of_lt hR.2.2.2.1 (by decide))
  have b4 : (nI k9).toNatClampNeg = k9 := nI_clamp (Nat.lt_of_le_of_lt hR.2.2.2.2.2.1 (by decide))
  have d3 : nI w9 = 6 ↔ w9 = 6 := nI_eq (b := 6) (Nat.lt_of_le_of_lt hR.2.2.2.1 (by decide)) (by decide)
  have d4 : nI k9 = 6 ↔ k9 = 6 := nI_eq (b := 6) (Nat.lt_of_le_of_lt hR.2.2.2.2.2.1 (by decide)) (by decide)
  have s3 : nI w9 + 1 = nI (w9 + 1) := nI_add w9 1
  have s4 : nI k9 + 1 = nI (k9 + 1) := nI_add k9 1
  have u3 := m38_up (f := fr) (i := 3) (v := nI (w9 + 1)) (by decide)
  simp only [wS, wE, wGG, wG0, uT, kG, a3, b3, d3, s3] at *
  grind
theorem lf_X8_readWind_21 {mk : Int32} {mv : Int32} {mb : Int32} {mz : Nat} {mp : Nat} {ft_ : Nat → Int32} {fr : Nat → Int32} {c9 : Nat} {w9 : Nat} {k9 : Nat} {mkn_15 : Int32} {mvn_15 : Int32} {mbn_15 : Int32} {mpn_15 : Nat} {g_18 : Nat → Int32} {mkn_20 : Int32} {mvn_20 : Int32} {mbn_20 : Int32} {mpn_20 : Nat} {mwn_20 : Int32} {frn_20 : Nat → Int32} (hmp : mp ≤ mz) (hmz : mz ≤ 120) (hR : okR fr c9 w9 k9 k9) (c_2 : mk = 1) (c_8 : mv = 119) (c_14 : ¬ (w9 = 6)) (hF_15_0 : mpn_15 ≤ mz) (hF_15_1 : nT ft_ mz mp = (mkn_15, mvn_15, mbn_15, mpn_15)) (hu_18 : g_18 = upd fr 3 (nI (w9 + 1))) (hF_20_0 : mpn_20 ≤ mz) (hF_20_2 : nU ft_ mz 0 4 59 (mkn_15, mvn_15, mbn_15, mpn_15) = (mkn_20, mvn_20, mbn_20, mpn_20)) (hF_20_3 : m38 frn_20 = nR 0 4 (8 + w9) (mkn_15, mvn_15, mbn_15, mpn_15) (m38 g_18)) (hF_20_4 : (¬ nGG ft_ mz 0 4 59 (mkn_15, mvn_15, mbn_15, mpn_15) → mwn_20 = nE 0 4 (mkn_15, mvn_15, mbn_15, mpn_15))) (f_20_0_0 : ¬ nGG ft_ mz 0 4 59 (mkn_15, mvn_15, mbn_15, mpn_15)) : ¬ wGG ft_ mz ((mk, mv, mb, mp), m38 fr) := by
  have a3 : m38 fr 3 = nI w9 := (m38_at (by decide)).trans hR.2.2.1
  have a4 : m38 fr 4 = nI k9 := (m38_at (by decide)).trans hR.2.2.2.2.1
  have a0 : m38 fr 0 = nI c9 := (m38_at (by decide)).trans hR.1
  have b3 : (nI w9).toNatClampNeg = w9 := nI_clamp (Nat.lt_of_le_of_lt hR.2.2.2.1 (by decide))
  have b4 : (nI k9).toNatClampNeg = k9 := nI_clamp (Nat.lt_of_le_of_lt hR.2.2.2.2.2.1 (by decide))
  have d3 : nI w9 = 6 ↔ w9 = 6 := nI_eq (b := 6) (Nat.lt_of_le_of_lt hR.2.2.2.1 (by decide)) (by decide)
  have d4 : nI k9 = 6 ↔ k9 = 6 := nI_eq (b := 6) (Nat.lt_of_le_of_lt hR.2.2.2.2.2.1 (by decide)) (by decide)
  have s3 : nI w9 + 1 = nI (w9 + 1) := nI_add w9 1
  have s4 : nI k9 + 1 = nI (k9 + 1) := nI_add k9 1
  have u3 := m38_up (f := fr) (i := 3) (v := nI (w9 + 1)) (by decide)
  simp only [wS, wE, wGG, wG0, uT, kG, a3, b3, d3, s3] at *
  grind
theorem lf_X8_readWind_22 {mk : Int32} {mv : Int32} {mb : Int32} {mz : Nat} {mp : Nat} {ft_ : Nat → Int32} {fr : Nat → Int32} {c9 : Nat} {w9 : Nat} {k9 : Nat} {mkn_15 : Int32} {mvn_15 : Int32} {mbn_15 : Int32} {mpn_15 : Nat} {g_18 : Nat → Int32} {mkn_20 : Int32} {mvn_20 : Int32} {mbn_20 : Int32} {mpn_20 : Nat} {mwn_20 : Int32} {frn_20 : Nat → Int32} (hmp : mp ≤ mz) (hmz : mz ≤ 120) (hR : okR fr c9 w9 k9 k9) (c_2 : mk = 1) (c_8 : mv = 119) (c_14 : ¬ (w9 = 6)) (hF_15_0 : mpn_15 ≤ mz) (hF_15_1 : nT ft_ mz mp = (mkn_15, mvn_15, mbn_15, mpn_15)) (hu_18 : g_18 = upd fr 3 (nI (w9 + 1))) (hF_20_0 : mpn_20 ≤ mz) (hF_20_2 : nU ft_ mz 0 4 59 (mkn_15, mvn_15, mbn_15, mpn_15) = (mkn_20, mvn_20, mbn_20, mpn_20)) (hF_20_3 : m38 frn_20 = nR 0 4 (8 + w9) (mkn_15, mvn_15, mbn_15, mpn_15) (m38 g_18)) (hF_20_4 : (¬ nGG ft_ mz 0 4 59 (mkn_15, mvn_15, mbn_15, mpn_15) → mwn_20 = nE 0 4 (mkn_15, mvn_15, mbn_15, mpn_15))) (f_20_1_0 : nGG ft_ mz 0 4 59 (mkn_15, mvn_15, mbn_15, mpn_15)) (hR_20 : okR frn_20 c9 (w9 + 1) k9 k9) : wS ft_ mz ((mk, mv, mb, mp), m38 fr) = ((mkn_20, mvn_20, mbn_20, mpn_20), m38 frn_20) := by
  have a3 : m38 fr 3 = nI w9 := (m38_at (by decide)).trans hR.2.2.1
  have a4 : m38 fr 4 = nI k9 := (m38_at (by decide)).trans hR.2.2.2.2.1
  have a0 : m38 fr 0 = nI c9 := (m38_at (by decide)).trans hR.1
  have b3 : (nI w9).toNatClampNeg = w9 := nI_clamp (Nat.lt_of_le_of_lt hR.2.2.2.1 (by decide))
  have b4 : (nI k9).toNatClampNeg = k9 := nI_clamp (Nat.lt_of_le_of_lt hR.2.2.2.2.2.1 (by decide))
  have d3 : nI w9 = 6 ↔ w9 = 6 := nI_eq (b := 6) (Nat.lt_of_le_of_lt hR.2.2.2.1 (by decide)) (by decide)
  have d4 : nI k9 = 6 ↔ k9 = 6 := nI_eq (b := 6) (Nat.lt_of_le_of_lt hR.2.2.2.2.2.1 (by decide)) (by decide)
  have s3 : nI w9 + 1 = nI (w9 + 1) := nI_add w9 1
  have s4 : nI k9 + 1 = nI (k9 + 1) := nI_add k9 1
  have u3 := m38_up (f := fr) (i := 3) (v := nI (w9 + 1)) (by decide)
  simp only [wS, wE, wGG, wG0, uT, kG, a3, b3, d3, s3] at *
  grind
theorem lf_X8_readWind_23 {mk : Int32} {mv : Int32} {mb : Int32} {mz : Nat} {mp : Nat} {ft_ : Nat → Int32} {fr : Nat → Int32} {c9 : Nat} {w9 : Nat} {k9 : Nat} {mkn_15 : Int32} {mvn_15 : Int32} {mbn_15 : Int32} {mpn_15 : Nat} {g_18 : Nat → Int32} {mkn_20 : Int32} {mvn_20 : Int32} {mbn_20 : Int32} {mpn_20 : Nat} {mwn_20 : Int32} {frn_20 : Nat → Int32} (hmp : mp ≤ mz) (hmz : mz ≤ 120) (hR : okR fr c9 w9 k9 k9) (c_2 : mk = 1) (c_8 : mv = 119) (c_14 : ¬ (w9 = 6)) (hF_15_0 : mpn_15 ≤ mz) (hF_15_1 : nT ft_ mz mp = (mkn_15, mvn_15, mbn_15, mpn_15)) (hu_18 : g_18 = upd fr 3 (nI (w9 + 1))) (hF_20_0 : mpn_20 ≤ mz) (hF_20_2 : nU ft_ mz 0 4 59 (mkn_15, mvn_15, mbn_15, mpn_15) = (mkn_20, mvn_20, mbn_20, mpn_20)) (hF_20_3 : m38 frn_20 = nR 0 4 (8 + w9) (mkn_15, mvn_15, mbn_15, mpn_15) (m38 g_18)) (hF_20_4 : (¬ nGG ft_ mz 0 4 59 (mkn_15, mvn_15, mbn_15, mpn_15) → mwn_20 = nE 0 4 (mkn_15, mvn_15, mbn_15, mpn_15))) (f_20_1_0 : nGG ft_ mz 0 4 59 (mkn_15, mvn_15, mbn_15, mpn_15)) (hR_20 : okR frn_20 c9 (w9 + 1) k9 k9) : (¬ wGG ft_ mz ((mk, mv, mb, mp), m38 fr) → mwn_20 = wE ft_ mz ((mk, mv, mb, mp), m38 fr)) := by
  have a3 : m38 fr 3 = nI w9 := (m38_at (by decide)).trans hR.2.2.1
  have a4 : m38 fr 4 = nI k9 := (m38_at (by decide)).trans hR.2.2.2.2.1
  have a0 : m38 fr 0 = nI c9 := (m38_at (by decide)).trans hR.1
  have b3 : (nI w9).toNatClampNeg = w9 := nI_clamp (Nat.lt_of_le_of_lt hR.2.2.2.1 (by decide))
  have b4 : (nI k9).toNatClampNeg = k9 := nI_clamp (Nat.lt_of_le_of_lt hR.2.2.2.2.2.1 (by decide))
  have d3 : nI w9 = 6 ↔ w9 = 6 := nI_eq (b := 6) (Nat.lt_of_le_of_lt hR.2.2.2.1 (by decide)) (by decide)
  have d4 : nI k9 = 6 ↔ k9 = 6 := nI_eq (b := 6) (Nat.lt_of_le_of_lt hR.2.2.2.2.2.1 (by decide)) (by decide)
  have s3 : nI w9 + 1 = nI (w9 + 1) := nI_add w9 1
  have s4 : nI k9 + 1 = nI (k9 + 1) := nI_add k9 1
  have u3 := m38_up (f := fr) (i := 3) (v := nI (w9 + 1)) (by decide)
  simp only [wS, wE, wGG, wG0, uT, kG, a3, b3, d3, s3] at *
  grind
theorem lf_X8_readWind_24 {mk : Int32} {mv : Int32} {mb : Int32} {mz : Nat} {mp : Nat} {ft_ : Nat → Int32} {fr : Nat → Int32} {c9 : Nat} {w9 : Nat} {k9 : Nat} {mkn_15 : Int32} {mvn_15 : Int32} {mbn_15 : Int32} {mpn_15 : Nat} {g_18 : Nat → Int32} {mkn_20 : Int32} {mvn_20 : Int32} {mbn_20 : Int32} {mpn_20 : Nat} {mwn_20 : Int32} {frn_20 : Nat → Int32} (hmp : mp ≤ mz) (hmz : mz ≤ 120) (hR : okR fr c9 w9 k9 k9) (c_2 : mk = 1) (c_8 : mv = 119) (c_14 : ¬ (w9 = 6)) (hF_15_0 : mpn_15 ≤ mz) (hF_15_1 : nT ft_ mz mp = (mkn_15, mvn_15, mbn_15, mpn_15)) (hu_18 : g_18 = upd fr 3 (nI (w9 + 1))) (hF_20_0 : mpn_20 ≤ mz) (hF_20_2 : nU ft_ mz 0 4 59 (mkn_15, mvn_15, mbn_15, mpn_15) = (mkn_20, mvn_20, mbn_20, mpn_20)) (hF_20_3 : m38 frn_20 = nR 0 4 (8 + w9) (mkn_15, mvn_15, mbn_15, mpn_15) (m38 g_18)) (hF_20_4 : (¬ nGG ft_ mz 0 4 59 (mkn_15, mvn_15, mbn_15, mpn_15) → mwn_20 = nE 0 4 (mkn_15, mvn_15, mbn_15, mpn_15))) (f_20_1_0 : nGG ft_ mz 0 4 59 (mkn_15, mvn_15, mbn_15, mpn_15)) (hR_20 : okR frn_20 c9 (w9 + 1) k9 k9) : wGG ft_ mz ((mk, mv, mb, mp), m38 fr) := by
  have a3 : m38 fr 3 = nI w9 := (m38_at (by decide)).trans hR.2.2.1
  have a4 : m38 fr 4 = nI k9 := (m38_at (by decide)).trans hR.2.2.2.2.1
  have a0 : m38 fr 0 = nI c9 := (m38_at (by decide)).trans hR.1
  have b3 : (nI w9).toNatClampNeg = w9 := nI_clamp (Nat.lt_of_le_of_lt hR.2.2.2.1 (by decide))
  have b4 : (nI k9).toNatClampNeg = k9 := nI_clamp (Nat.lt_of_le_of_lt hR.2.2.2.2.2.1 (by decide))
  have d3 : nI w9 = 6 ↔ w9 = 6 := nI_eq (b := 6) (Nat.lt_of_le_of_lt hR.2.2.2.1 (by decide)) (by decide)
  have d4 : nI k9 = 6 ↔ k9 = 6 := nI_eq (b := 6) (Nat.lt_of_le_of_lt hR.2.2.2.2.2.1 (by decide)) (by decide)
  have s3 : nI w9 + 1 = nI (w9 + 1) := nI_add w9 1
  have s4 : nI k9 + 1 = nI (k9 + 1) := nI_add k9 1
  have u3 := m38_up (f := fr) (i := 3) (v := nI (w9 + 1)) (by decide)
  simp only [wS, wE, wGG, wG0, uT, kG, a3, b3, d3, s3] at *
  grind
theorem lf_X8_readWind_25 {mk : Int32} {mv : Int32} {mb : Int32} {mz : Nat} {mp : Nat} {ft_ : Nat → Int32} {fr : Nat → Int32} {c9 : Nat} {w9 : Nat} {k9 : Nat} {mwn_22 : Int32} (hmp : mp ≤ mz) (hmz : mz ≤ 120) (hR : okR fr c9 w9 k9 k9) (c_2 : mk = 1) (c_8 : mv = 119) (c_14 : w9 = 6) (c_21 : ¬ (mk = 1)) (hF_22_0 : mwn_22 = 1) : wS ft_ mz ((mk, mv, mb, mp), m38 fr) = ((mk, mv, mb, mp), m38 fr) := by
  exact absurd c_2 c_21
theorem lf_X8_readWind_26 {mk : Int32} {mv : Int32} {mb : Int32} {mz : Nat} {mp : Nat} {ft_ : Nat → Int32} {fr : Nat → Int32} {c9 : Nat} {w9 : Nat} {k9 : Nat} {mwn_22 : Int32} (hmp : mp ≤ mz) (hmz : mz ≤ 120) (hR : okR fr c9 w9 k9 k9) (c_2 : mk = 1) (c_8 : mv = 119) (c_14 : w9 = 6) (c_21 : ¬ (mk = 1)) (hF_22_0 : mwn_22 = 1) : (¬ wGG ft_ mz ((mk, mv, mb, mp), m38 fr) → mwn_22 = wE ft_ mz ((mk, mv, mb, mp), m38 fr)) := by
  exact absurd c_2 c_21
theorem lf_X8_readWind_27 {mk : Int32} {mv : Int32} {mb : Int32} {mz : Nat} {mp : Nat} {ft_ : Nat → Int32} {fr : Nat → Int32} {c9 : Nat} {w9 : Nat} {k9 : Nat} {mwn_22 : Int32} (hmp : mp ≤ mz) (hmz : mz ≤ 120) (hR : okR fr c9 w9 k9 k9) (c_2 : mk = 1) (c_8 : mv = 119) (c_14 : w9 = 6) (c_21 : ¬ (mk = 1)) (hF_22_0 : mwn_22 = 1) : ¬ wGG ft_ mz ((mk, mv, mb, mp), m38 fr) := by
  exact absurd c_2 c_21
theorem lf_X8_readWind_28 {mk : Int32} {mv : Int32} {mb : Int32} {mz : Nat} {mp : Nat} {ft_ : Nat → Int32} {fr : Nat → Int32} {c9 : Nat} {w9 : Nat} {k9 : Nat} {mwn_24 : Int32} (hmp : mp ≤ mz) (hmz : mz ≤ 120) (hR : okR fr c9 w9 k9 k9) (c_2 : mk = 1) (c_8 : mv = 119) (c_14 : w9 = 6) (c_21 : mk = 1) (c_23 : ¬ (mv = 119)) (hF_24_0 : mwn_24 = 1) : wS ft_ mz ((mk, mv, mb, mp), m38 fr) = ((mk, mv, mb, mp), m38 fr) := by
  exact absurd c_8 c_23
theorem lf_X8_readWind_29 {mk : Int32} {mv : Int32} {mb : Int32} {mz : Nat} {mp : Nat} {ft_ : Nat → Int32} {fr : Nat → Int32} {c9 : Nat} {w9 : Nat} {k9 : Nat} {mwn_24 : Int32} (hmp : mp ≤ mz) (hmz : mz ≤ 120) (hR : okR fr c9 w9 k9 k9) (c_2 : mk = 1) (c_8 : mv = 119) (c_14 : w9 = 6) (c_21 : mk = 1) (c_23 : ¬ (mv = 119)) (hF_24_0 : mwn_24 = 1) : (¬ wGG ft_ mz ((mk, mv, mb, mp), m38 fr) → mwn_24 = wE ft_ mz ((mk, mv, mb, mp), m38 fr)) := by
  exact absurd c_8 c_23
theorem lf_X8_readWind_30 {mk : Int32} {mv : Int32} {mb : Int32} {mz : Nat} {mp : Nat} {ft_ : Nat → Int32} {fr : Nat → Int32} {c9 : Nat} {w9 : Nat} {k9 : Nat} {mwn_24 : Int32} (hmp : mp ≤ mz) (hmz : mz ≤ 120) (hR : okR fr c9 w9 k9 k9) (c_2 : mk = 1) (c_8 : mv = 119) (c_14 : w9 = 6) (c_21 : mk = 1) (c_23 : ¬ (mv = 119)) (hF_24_0 : mwn_24 = 1) : ¬ wGG ft_ mz ((mk, mv, mb, mp), m38 fr) := by
  exact absurd c_8 c_23
theorem lf_X8_readWind_31 {mk : Int32} {mv : Int32} {mb : Int32} {mz : Nat} {mp : Nat} {ft_ : Nat → Int32} {fr : Nat → Int32} {c9 : Nat} {w9 : Nat} {k9 : Nat} {mwn_25 : Int32} (hmp : mp ≤ mz) (hmz : mz ≤ 120) (hR : okR fr c9 w9 k9 k9) (c_2 : mk = 1) (c_8 : mv = 119) (c_14 : w9 = 6) (c_21 : mk = 1) (c_23 : mv = 119) (hF_25_0 : mwn_25 = 3) : wS ft_ mz ((mk, mv, mb, mp), m38 fr) = ((mk, mv, mb, mp), m38 fr) := by
  have a3 : m38 fr 3 = nI w9 := (m38_at (by decide)).trans hR.2.2.1
  have a4 : m38 fr 4 = nI k9 := (m38_at (by decide)).trans hR.2.2.2.2.1
  have a0 : m38 fr 0 = nI c9 := (m38_at (by decide)).trans hR.1
  have b3 : (nI w9).toNatClampNeg = w9 := nI_clamp (Nat.lt_of_le_of_lt hR.2.2.2.1 (by decide))
  have b4 : (nI k9).toNatClampNeg = k9 := nI_clamp (Nat.lt_of_le_of_lt hR.2.2.2.2.2.1 (by decide))
  have d3 : nI w9 = 6 ↔ w9 = 6 := nI_eq (b := 6) (Nat.lt_of_le_of_lt hR.2.2.2.1 (by decide)) (by decide)
  have d4 : nI k9 = 6 ↔ k9 = 6 := nI_eq (b := 6) (Nat.lt_of_le_of_lt hR.2.2.2.2.2.1 (by decide)) (by decide)
  have s3 : nI w9 + 1 = nI (w9 + 1) := nI_add w9 1
  have s4 : nI k9 + 1 = nI (k9 + 1) := nI_add k9 1
  have u3 := m38_up (f := fr) (i := 3) (v := nI (w9 + 1)) (by decide)
  simp only [wS, wE, wGG, wG0, uT, kG, a3, b3, d3, s3] at *
  grind
theorem lf_X8_readWind_32 {mk : Int32} {mv : Int32} {mb : Int32} {mz : Nat} {mp : Nat} {ft_ : Nat → Int32} {fr : Nat → Int32} {c9 : Nat} {w9 : Nat} {k9 : Nat} {mwn_25 : Int32} (hmp : mp ≤ mz) (hmz : mz ≤ 120) (hR : okR fr c9 w9 k9 k9) (c_2 : mk = 1) (c_8 : mv = 119) (c_14 : w9 = 6) (c_21 : mk = 1) (c_23 : mv = 119) (hF_25_0 : mwn_25 = 3) : (¬ wGG ft_ mz ((mk, mv, mb, mp), m38 fr) → mwn_25 = wE ft_ mz ((mk, mv, mb, mp), m38 fr)) := by
  have a3 : m38 fr 3 = nI w9 := (m38_at (by decide)).trans hR.2.2.1
  have a4 : m38 fr 4 = nI k9 := (m38_at (by decide)).trans hR.2.2.2.2.1
  have a0 : m38 fr 0 = nI c9 := (m38_at (by decide)).trans hR.1
  have b3 : (nI w9).toNatClampNeg = w9 := nI_clamp (Nat.lt_of_le_of_lt hR.2.2.2.1 (by decide))
  have b4 : (nI k9).toNatClampNeg = k9 := nI_clamp (Nat.lt_of_le_of_lt hR.2.2.2.2.2.1 (by decide))
  have d3 : nI w9 = 6 ↔ w9 = 6 := nI_eq (b := 6) (Nat.lt_of_le_of_lt hR.2.2.2.1 (by decide)) (by decide)
  have d4 : nI k9 = 6 ↔ k9 = 6 := nI_eq (b := 6) (Nat.lt_of_le_of_lt hR.2.2.2.2.2.1 (by decide)) (by decide)
  have s3 : nI w9 + 1 = nI (w9 + 1) := nI_add w9 1
  have s4 : nI k9 + 1 = nI (k9 + 1) := nI_add k9 1
  have u3 := m38_up (f := fr) (i := 3) (v := nI (w9 + 1)) (by decide)
  simp only [wS, wE, wGG, wG0, uT, kG, a3, b3, d3, s3] at *
  grind
theorem lf_X8_readWind_33 {mk : Int32} {mv : Int32} {mb : Int32} {mz : Nat} {mp : Nat} {ft_ : Nat → Int32} {fr : Nat → Int32} {c9 : Nat} {w9 : Nat} {k9 : Nat} {mwn_25 : Int32} (hmp : mp ≤ mz) (hmz : mz ≤ 120) (hR : okR fr c9 w9 k9 k9) (c_2 : mk = 1) (c_8 : mv = 119) (c_14 : w9 = 6) (c_21 : mk = 1) (c_23 : mv = 119) (hF_25_0 : mwn_25 = 3) : ¬ wGG ft_ mz ((mk, mv, mb, mp), m38 fr) := by
  have a3 : m38 fr 3 = nI w9 := (m38_at (by decide)).trans hR.2.2.1
  have a4 : m38 fr 4 = nI k9 := (m38_at (by decide)).trans hR.2.2.2.2.1
  have a0 : m38 fr 0 = nI c9 := (m38_at (by decide)).trans hR.1
  have b3 : (nI w9).toNatClampNeg = w9 := nI_clamp (Nat.lt_of_le_of_lt hR.2.2.2.1 (by decide))
  have b4 : (nI k9).toNatClampNeg = k9 := nI_clamp (Nat.lt_of_le_of_lt hR.2.2.2.2.2.1 (by decide))
  have d3 : nI w9 = 6 ↔ w9 = 6 := nI_eq (b := 6) (Nat.lt_of_le_of_lt hR.2.2.2.1 (by decide)) (by decide)
  have d4 : nI k9 = 6 ↔ k9 = 6 := nI_eq (b := 6) (Nat.lt_of_le_of_lt hR.2.2.2.2.2.1 (by decide)) (by decide)
  have s3 : nI w9 + 1 = nI (w9 + 1) := nI_add w9 1
  have s4 : nI k9 + 1 = nI (k9 + 1) := nI_add k9 1
  have u3 := m38_up (f := fr) (i := 3) (v := nI (w9 + 1)) (by decide)
  simp only [wS, wE, wGG, wG0, uT, kG, a3, b3, d3, s3] at *
  grind
set_option maxHeartbeats 4000000 in
set_option maxRecDepth 100000 in
theorem r_X8_readWind (l : Launch) (dC : Nat → ClassId) (dI : Nat → Nat → Nat) (cI cZ cL cJ : ClassId) (sz : Nat) (mo : Nat) (m_la : Nat) (m_sz : Nat) (m_it : Nat) (m_st : Nat) (m_mv : Nat) (m_tp : Nat) (m_rd : Nat) (m_ac : Nat) (m_as : Nat) (m_wo : Nat) (m_ik : Nat) (m_ke : Nat) (m_tr : Nat) (ms : Int32) (mt : Int32) (ml : Int32) (mk : Int32) (mv : Int32) (mb : Int32) (mw : Int32) (mz : Nat) (mp : Nat) (ma : Nat) (mx : Nat) (ft_ : Nat → Int32) (fr : Nat → Int32) (c9 : Nat) (w9 : Nat) (k9 : Nat) (hmp : mp ≤ mz) (hmz : mz ≤ 120) (hR : okR fr c9 w9 k9 k9) : Met l yX8_readWind wsX8_readWind ({ frames := 4, cells := 0, slots := 0, locals := 90 }) (va_Pc [.ref mo] (fun U => U.heap.size = sz ∧ va_P (dC, dI) vwCl [(xo_8_rrriirrriiiiiiirrirrrrri mo m_la m_sz m_it ms mt m_st m_mv m_tp (nI mz) ml (nI mp) mk mv mb mw m_rd m_ac (nI ma) m_as m_wo m_ik m_ke m_tr (nI mx)), (xI m_tp cI 120 ft_), (xI m_rd cI 38 fr)] U.heap ∧ va_K (dC, dI) vwCl [(cI, .int), (cZ, .boolean), (cL, .object RX3), (cJ, .array .int)] U ∧ va_D (fun _ => True) [(xo_8_rrriirrriiiiiiirrirrrrri mo m_la m_sz m_it ms mt m_st m_mv m_tp (nI mz) ml (nI mp) mk mv mb mw m_rd m_ac (nI ma) m_as m_wo m_ik m_ke m_tr (nI mx)), (xI m_tp cI 120 ft_), (xI m_rd cI 38 fr)])) (va_Qi (fun r (u : Int32) => r = u ∧ ((r = 0 ∧ ¬ wGG ft_ mz ((mk, mv, mb, mp), m38 fr)) ∨ (r = 1 ∧ wGG ft_ mz ((mk, mv, mb, mp), m38 fr)))) (fun (u : Int32) t => ∃ (mkn : Int32) (mvn : Int32) (mbn : Int32) (mpn : Nat) (mwn : Int32) (frn : Nat → Int32), va_P (dC, dI) vwCl [(xo_8_rrriirrriiiiiiirrirrrrri mo m_la m_sz m_it ms mt m_st m_mv m_tp (nI mz) ml (nI mpn) mkn mvn mbn mwn m_rd m_ac (nI ma) m_as m_wo m_ik m_ke m_tr (nI mx)), (xI m_tp cI 120 ft_), (xI m_rd cI 38 frn)] t.heap ∧ va_D (va_A [(xo_8_rrriirrriiiiiiirrirrrrri mo m_la m_sz m_it ms mt m_st m_mv m_tp (nI mz) ml (nI mp) mk mv mb mw m_rd m_ac (nI ma) m_as m_wo m_ik m_ke m_tr (nI mx)), (xI m_tp cI 120 ft_), (xI m_rd cI 38 fr)] sz) [(xo_8_rrriirrriiiiiiirrirrrrri mo m_la m_sz m_it ms mt m_st m_mv m_tp (nI mz) ml (nI mpn) mkn mvn mbn mwn m_rd m_ac (nI ma) m_as m_wo m_ik m_ke m_tr (nI mx)), (xI m_tp cI 120 ft_), (xI m_rd cI 38 frn)] ∧ mpn ≤ mz ∧ (u = 1 → okR frn c9 (w9 + 1) k9 k9 ∧ w9 < 6) ∧ wS ft_ mz ((mk, mv, mb, mp), m38 fr) = ((mkn, mvn, mbn, mpn), m38 frn) ∧ (¬ wGG ft_ mz ((mk, mv, mb, mp), m38 fr) → mwn = wE ft_ mz ((mk, mv, mb, mp), m38 fr))) (va_A [(xo_8_rrriirrriiiiiiirrirrrrri mo m_la m_sz m_it ms mt m_st m_mv m_tp (nI mz) ml (nI mp) mk mv mb mw m_rd m_ac (nI ma) m_as m_wo m_ik m_ke m_tr (nI mx)), (xI m_tp cI 120 ft_), (xI m_rd cI 38 fr)] sz)) 0 0 (va_A [(xo_8_rrriirrriiiiiiirrirrrrri mo m_la m_sz m_it ms mt m_st m_mv m_tp (nI mz) ml (nI mp) mk mv mb mw m_rd m_ac (nI ma) m_as m_wo m_ik m_ke m_tr (nI mx)), (xI m_tp cI 120 ft_), (xI m_rd cI 38 fr)] sz) := by
  refine Met.ofW (cc := cX8_readWind) (maxL := 2) (ret := (some .boolean)) (by decide) rfl ?_
  intro p e s m args below meth c s₁ B hml hv
  obtain ⟨rfl, hsz, hP, hK, hD0⟩ := hv
  have hx := B.exec
  have hb := B.bytes
  have hr := B.returns
  have hts := atoms_spec (ws := wsX8_readWind) B.pre
  have hown : s.vm.findClass RX8 = some m.cls := findClass_of_methodNamed B.named
  have hlocks := B.notSynchronized
  subst hsz
  have hD := hD0.self (sz := s.heap.size)
  generalize hAe : va_A [(xo_8_rrriirrriiiiiiirrirrrrri mo m_la m_sz m_it ms mt m_st m_mv m_tp (nI mz) ml (nI mp) mk mv mb mw m_rd m_ac (nI ma) m_as m_wo m_ik m_ke m_tr (nI mx)), (xI m_tp cI 120 ft_), (xI m_rd cI 38 fr)] s.heap.size = A at hD ⊢
  have hA : ∀ q : Nat, s.heap.size ≤ q → A q := fun q h => by rw [← hAe]; exact Or.inr h
  have hS : va_S A s.heap s.heap [] := va_S.rf
  have hP : va_P (dC, dI) vwCl [(xo_8_rrriirrriiiiiiirrirrrrri mo m_la m_sz m_it ms mt m_st m_mv m_tp (nI mz) ml (nI mp) mk mv mb mw m_rd m_ac (nI ma) m_as m_wo m_ik m_ke m_tr (nI mx)), (xI m_tp cI 120 ft_), (xI m_rd cI 38 fr)] s.heap := hP
  have hl := lv_entry ([.ref mo]) (n := 2) (Nat.le_of_ble_eq_true rfl)
  rw [lg_entry_eq]
  generalize (lg_sl ([.ref mo]) ++ List.replicate (2 - (lg_sl ([.ref mo])).length) Slot.unset).toArray = ls at hl ⊢
  have hl : lv_has ls 2 [(0, .ref mo)] := hl
  have hw6 := hR.2.2.2.1
  have hk6 := hR.2.2.2.2.2.1
  refine lv_aload_n hx hb dX8_readWind_0 rfl (lv_at hl 0 rfl) ?_
  refine va_get (D := (dC, dI)) (ci := 8) (v := .ref m_rd) (C := RX8) (T := TX8) (N := 24) hx hb hts i_X8_readWind_X8 hown hK hP 0 rfl rfl 15 (by decide) (hts _ mx_X8_readWind_1) (fun _ h9 => h9) rfl dX8_readWind_1 ?_
  refine lv_iconst (v := 3) hx hb dX8_readWind_4 (by decide) ?_
  refine va_iald hx hb hK hP 2 0 rfl rfl (by unfold vp_in; decide) dX8_readWind_5 ?_
  refine lv_topi (fun v_1 e_1 => ?_)
  obtain rfl : v_1 = (nI w9) := (e_1).trans hR.2.2.1
  refine lv_istore_n (lv' := [(1, .int (nI w9)), (0, .ref mo)]) hx hb dX8_readWind_6 rfl hl (by decide) rfl (fun ls hl => ?_)
  refine lv_aload_n hx hb dX8_readWind_7 rfl (lv_at hl 1 rfl) ?_
  refine va_get (D := (dC, dI)) (ci := 8) (v := .int mk) (C := RX8) (T := TX8) (N := 24) hx hb hts i_X8_readWind_X8 hown hK hP 0 rfl rfl 11 (by decide) (hts _ mx_X8_readWind_2) (fun _ h9 => h9) rfl dX8_readWind_8 ?_
  refine lv_iconst (v := 1) hx hb dX8_readWind_11 (by decide) ?_
  refine lv_icmp_ne (tgt := 30) hx hb dX8_readWind_12 (by decide) (fun c_2 => ?_) (fun c_2 => ?_)
  · skip
    refine lv_aload_n hx hb dX8_readWind_30 rfl (lv_at hl 1 rfl) ?_
    refine lv_aload_n hx hb dX8_readWind_31 rfl (lv_at hl 1 rfl) ?_
    refine va_get (D := (dC, dI)) (ci := 8) (v := .int mk) (C := RX8) (T := TX8) (N := 24) hx hb hts i_X8_readWind_X8 hown hK hP 0 rfl rfl 11 (by decide) (hts _ mx_X8_readWind_2) (fun _ h9 => h9) rfl dX8_readWind_32 ?_
    refine lv_iconst (v := 1) hx hb dX8_readWind_35 (by decide) ?_
    refine lv_icmp_ne (tgt := 52) hx hb dX8_readWind_36 (by decide) (fun c_3 => ?_) (fun c_3 => ?_)
    · skip
      refine lv_iconst (v := 1) hx hb dX8_readWind_52 (by decide) ?_
      have hc_4 := cutW (wc := [(xo_8_rrriirrriiiiiiirrirrrrri mo m_la m_sz m_it ms mt m_st m_mv m_tp (nI mz) ml (nI mp) mk mv mb mw m_rd m_ac (nI ma) m_as m_wo m_ik m_ke m_tr (nI mx))]) hP hD hS hA [0] (by decide +kernel) rfl
      refine va_calli (va_runV (As := [.int 1]) (rest := []) ⟨hx, hb, hml, hown, hts⟩ (r_X8_faults l dC dI cI cZ cL cJ s.heap.size mo m_la m_sz m_it m_st m_mv m_tp m_rd m_ac m_as m_wo m_ik m_ke m_tr ms mt ml mk mv mb mw mz mp ma mx 1 ) (cwV 1 hts gX8_readWind_X8_faults rfl rfl rfl (by decide +kernel) ⟨Nat.le_of_ble_eq_true rfl, Nat.le_of_ble_eq_true rfl⟩) (pvW 8 0 hK hP rfl rfl hc_4) rfl rfl hl.1 rfl (lv_room (Nat.le_of_ble_eq_true rfl)) dX8_readWind_53 ⟨Nat.le_of_ble_eq_true rfl, Nat.le_of_ble_eq_true rfl⟩) hS (fun q _ h => hc_4.2.2 q h) hc_4.2.2 (fun r_4 u_4 t_4 H1 locs ht hvm h_4 hB hz1 hk1 hS => ?_)
      refine xl_1_3 hB (fun mwn_4 hP1 hD1 hF_4_0 => ?_)
      clear hB
      rw [ht] at hP1
      obtain ⟨hP, hD⟩ := va_join (wr := [(xI m_tp cI 120 ft_), (xI m_rd cI 38 fr)]) (w1 := [(xo_8_rrriirrriiiiiiirrirrrrri mo m_la m_sz m_it ms mt m_st m_mv m_tp (nI mz) ml (nI mp) mk mv mb mwn_4 m_rd m_ac (nI ma) m_as m_wo m_ik m_ke m_tr (nI mx))]) hP hD [0] [1, 2] rfl rfl (by decide +kernel) (by decide +kernel) hk1 hc_4.2.2 hP1 hD1
      generalize H1 = H at hP hS ⊢
      have hP : va_P (dC, dI) vwCl [(xI m_tp cI 120 ft_), (xI m_rd cI 38 fr), (xo_8_rrriirrriiiiiiirrirrrrri mo m_la m_sz m_it ms mt m_st m_mv m_tp (nI mz) ml (nI mp) mk mv mb mwn_4 m_rd m_ac (nI ma) m_as m_wo m_ik m_ke m_tr (nI mx))] H := hP
      have hD := dto hP hD
      subst h_4
      have hX9 := cut2 (wc := [(xo_8_rrriirrriiiiiiirrirrrrri mo m_la m_sz m_it ms mt m_st m_mv m_tp (nI mz) ml (nI mp) mk mv mb mwn_4 m_rd m_ac (nI ma) m_as m_wo m_ik m_ke m_tr (nI mx)), (xI m_tp cI 120 ft_), (xI m_rd cI 38 fr)]) hP hD [2, 0, 1] (by decide +kernel) rfl
      exact W.zret (v := 0) hx hb hr (by decide) (fun t ht hW => ⟨⟨0, 0, rfl, ⟨rfl, Or.inl (⟨rfl, (lf_X8_readWind_3 hmp hmz hR c_2 c_3 hF_4_0)⟩)⟩, ⟨mk, mv, mb, mp, mwn_4, fr, va_Ht ht hX9.1, hX9.2, (by omega), (fun h_ => absurd h_ (by decide)), (lf_X8_readWind_1 hmp hmz hR c_2 c_3 hF_4_0), (lf_X8_readWind_2 hmp hmz hR c_2 c_3 hF_4_0)⟩⟩, hS.F ht⟩) hS.2.2 dX8_readWind_56
    · skip
      refine lv_aload_n hx hb dX8_readWind_39 rfl (lv_at hl 1 rfl) ?_
      refine va_get (D := (dC, dI)) (ci := 8) (v := .int mv) (C := RX8) (T := TX8) (N := 24) hx hb hts i_X8_readWind_X8 hown hK hP 0 rfl rfl 12 (by decide) (hts _ mx_X8_readWind_3) (fun _ h9 => h9) rfl dX8_readWind_40 ?_
      refine lv_bipush (v := 119) hx hb dX8_readWind_43 (by decide) ?_
      refine lv_icmp_ne (tgt := 52) hx hb dX8_readWind_45 (by decide) (fun c_5 => ?_) (fun c_5 => ?_)
      · skip
        refine lv_iconst (v := 1) hx hb dX8_readWind_52 (by decide) ?_
        have hc_6 := cutW (wc := [(xo_8_rrriirrriiiiiiirrirrrrri mo m_la m_sz m_it ms mt m_st m_mv m_tp (nI mz) ml (nI mp) mk mv mb mw m_rd m_ac (nI ma) m_as m_wo m_ik m_ke m_tr (nI mx))]) hP hD hS hA [0] (by decide +kernel) rfl
        refine va_calli (va_runV (As := [.int 1]) (rest := []) ⟨hx, hb, hml, hown, hts⟩ (r_X8_faults l dC dI cI cZ cL cJ s.heap.size mo m_la m_sz m_it m_st m_mv m_tp m_rd m_ac m_as m_wo m_ik m_ke m_tr ms mt ml mk mv mb mw mz mp ma mx 1 ) (cwV 1 hts gX8_readWind_X8_faults rfl rfl rfl (by decide +kernel) ⟨Nat.le_of_ble_eq_true rfl, Nat.le_of_ble_eq_true rfl⟩) (pvW 8 0 hK hP rfl rfl hc_6) rfl rfl hl.1 rfl (lv_room (Nat.le_of_ble_eq_true rfl)) dX8_readWind_53 ⟨Nat.le_of_ble_eq_true rfl, Nat.le_of_ble_eq_true rfl⟩) hS (fun q _ h => hc_6.2.2 q h) hc_6.2.2 (fun r_6 u_6 t_6 H1 locs ht hvm h_6 hB hz1 hk1 hS => ?_)
        refine xl_1_3 hB (fun mwn_6 hP1 hD1 hF_6_0 => ?_)
        clear hB
        rw [ht] at hP1
        obtain ⟨hP, hD⟩ := va_join (wr := [(xI m_tp cI 120 ft_), (xI m_rd cI 38 fr)]) (w1 := [(xo_8_rrriirrriiiiiiirrirrrrri mo m_la m_sz m_it ms mt m_st m_mv m_tp (nI mz) ml (nI mp) mk mv mb mwn_6 m_rd m_ac (nI ma) m_as m_wo m_ik m_ke m_tr (nI mx))]) hP hD [0] [1, 2] rfl rfl (by decide +kernel) (by decide +kernel) hk1 hc_6.2.2 hP1 hD1
        generalize H1 = H at hP hS ⊢
        have hP : va_P (dC, dI) vwCl [(xI m_tp cI 120 ft_), (xI m_rd cI 38 fr), (xo_8_rrriirrriiiiiiirrirrrrri mo m_la m_sz m_it ms mt m_st m_mv m_tp (nI mz) ml (nI mp) mk mv mb mwn_6 m_rd m_ac (nI ma) m_as m_wo m_ik m_ke m_tr (nI mx))] H := hP
        have hD := dto hP hD
        subst h_6
        have hX9 := cut2 (wc := [(xo_8_rrriirrriiiiiiirrirrrrri mo m_la m_sz m_it ms mt m_st m_mv m_tp (nI mz) ml (nI mp) mk mv mb mwn_6 m_rd m_ac (nI ma) m_as m_wo m_ik m_ke m_tr (nI mx)), (xI m_tp cI 120 ft_), (xI m_rd cI 38 fr)]) hP hD [2, 0, 1] (by decide +kernel) rfl
        exact W.zret (v := 0) hx hb hr (by decide) (fun t ht hW => ⟨⟨0, 0, rfl, ⟨rfl, Or.inl (⟨rfl, (lf_X8_readWind_6 hmp hmz hR c_2 c_3 c_5 hF_6_0)⟩)⟩, ⟨mk, mv, mb, mp, mwn_6, fr, va_Ht ht hX9.1, hX9.2, (by omega), (fun h_ => absurd h_ (by decide)), (lf_X8_readWind_4 hmp hmz hR c_2 c_3 c_5 hF_6_0), (lf_X8_readWind_5 hmp hmz hR c_2 c_3 c_5 hF_6_0)⟩⟩, hS.F ht⟩) hS.2.2 dX8_readWind_56
      · skip
        refine lv_iconst (v := 3) hx hb dX8_readWind_48 (by decide) ?_
        refine lv_goto (tgt := 53) hx hb dX8_readWind_49 (by decide) ?_
        have hc_7 := cutW (wc := [(xo_8_rrriirrriiiiiiirrirrrrri mo m_la m_sz m_it ms mt m_st m_mv m_tp (nI mz) ml (nI mp) mk mv mb mw m_rd m_ac (nI ma) m_as m_wo m_ik m_ke m_tr (nI mx))]) hP hD hS hA [0] (by decide +kernel) rfl
        refine va_calli (va_runV (As := [.int 3]) (rest := []) ⟨hx, hb, hml, hown, hts⟩ (r_X8_faults l dC dI cI cZ cL cJ s.heap.size mo m_la m_sz m_it m_st m_mv m_tp m_rd m_ac m_as m_wo m_ik m_ke m_tr ms mt ml mk mv mb mw mz mp ma mx 3 ) (cwV 1 hts gX8_readWind_X8_faults rfl rfl rfl (by decide +kernel) ⟨Nat.le_of_ble_eq_true rfl, Nat.le_of_ble_eq_true rfl⟩) (pvW 8 0 hK hP rfl rfl hc_7) rfl rfl hl.1 rfl (lv_room (Nat.le_of_ble_eq_true rfl)) dX8_readWind_53 ⟨Nat.le_of_ble_eq_true rfl, Nat.le_of_ble_eq_true rfl⟩) hS (fun q _ h => hc_7.2.2 q h) hc_7.2.2 (fun r_7 u_7 t_7 H1 locs ht hvm h_7 hB hz1 hk1 hS => ?_)
        refine xl_1_3 hB (fun mwn_7 hP1 hD1 hF_7_0 => ?_)
        clear hB
        rw [ht] at hP1
        obtain ⟨hP, hD⟩ := va_join (wr := [(xI m_tp cI 120 ft_), (xI m_rd cI 38 fr)]) (w1 := [(xo_8_rrriirrriiiiiiirrirrrrri mo m_la m_sz m_it ms mt m_st m_mv m_tp (nI mz) ml (nI mp) mk mv mb mwn_7 m_rd m_ac (nI ma) m_as m_wo m_ik m_ke m_tr (nI mx))]) hP hD [0] [1, 2] rfl rfl (by decide +kernel) (by decide +kernel) hk1 hc_7.2.2 hP1 hD1
        generalize H1 = H at hP hS ⊢
        have hP : va_P (dC, dI) vwCl [(xI m_tp cI 120 ft_), (xI m_rd cI 38 fr), (xo_8_rrriirrriiiiiiirrirrrrri mo m_la m_sz m_it ms mt m_st m_mv m_tp (nI mz) ml (nI mp) mk mv mb mwn_7 m_rd m_ac (nI ma) m_as m_wo m_ik m_ke m_tr (nI mx))] H := hP
        have hD := dto hP hD
        subst h_7
        have hX9 := cut2 (wc := [(xo_8_rrriirrriiiiiiirrirrrrri mo m_la m_sz m_it ms mt m_st m_mv m_tp (nI mz) ml (nI mp) mk mv mb mwn_7 m_rd m_ac (nI ma) m_as m_wo m_ik m_ke m_tr (nI mx)), (xI m_tp cI 120 ft_), (xI m_rd cI 38 fr)]) hP hD [2, 0, 1] (by decide +kernel) rfl
        exact W.zret (v := 0) hx hb hr (by decide) (fun t ht hW => ⟨⟨0, 0, rfl, ⟨rfl, Or.inl (⟨rfl, (lf_X8_readWind_9 hmp hmz hR c_2 c_3 c_5 hF_7_0)⟩)⟩, ⟨mk, mv, mb, mp, mwn_7, fr, va_Ht ht hX9.1, hX9.2, (by omega), (fun h_ => absurd h_ (by decide)), (lf_X8_readWind_7 hmp hmz hR c_2 c_3 c_5 hF_7_0), (lf_X8_readWind_8 hmp hmz hR c_2 c_3 c_5 hF_7_0)⟩⟩, hS.F ht⟩) hS.2.2 dX8_readWind_56
  · skip
    refine lv_aload_n hx hb dX8_readWind_15 rfl (lv_at hl 1 rfl) ?_
    refine va_get (D := (dC, dI)) (ci := 8) (v := .int mv) (C := RX8) (T := TX8) (N := 24) hx hb hts i_X8_readWind_X8 hown hK hP 0 rfl rfl 12 (by decide) (hts _ mx_X8_readWind_3) (fun _ h9 => h9) rfl dX8_readWind_16 ?_
    refine lv_bipush (v := 119) hx hb dX8_readWind_19 (by decide) ?_
    refine lv_icmp_ne (tgt := 30) hx hb dX8_readWind_21 (by decide) (fun c_8 => ?_) (fun c_8 => ?_)
    · skip
      refine lv_aload_n hx hb dX8_readWind_30 rfl (lv_at hl 1 rfl) ?_
      refine lv_aload_n hx hb dX8_readWind_31 rfl (lv_at hl 1 rfl) ?_
      refine va_get (D := (dC, dI)) (ci := 8) (v := .int mk) (C := RX8) (T := TX8) (N := 24) hx hb hts i_X8_readWind_X8 hown hK hP 0 rfl rfl 11 (by decide) (hts _ mx_X8_readWind_2) (fun _ h9 => h9) rfl dX8_readWind_32 ?_
      refine lv_iconst (v := 1) hx hb dX8_readWind_35 (by decide) ?_
      refine lv_icmp_ne (tgt := 52) hx hb dX8_readWind_36 (by decide) (fun c_9 => ?_) (fun c_9 => ?_)
      · skip
        refine lv_iconst (v := 1) hx hb dX8_readWind_52 (by decide) ?_
        have hc_10 := cutW (wc := [(xo_8_rrriirrriiiiiiirrirrrrri mo m_la m_sz m_it ms mt m_st m_mv m_tp (nI mz) ml (nI mp) mk mv mb mw m_rd m_ac (nI ma) m_as m_wo m_ik m_ke m_tr (nI mx))]) hP hD hS hA [0] (by decide +kernel) rfl
        refine va_calli (va_runV (As := [.int 1]) (rest := []) ⟨hx, hb, hml, hown, hts⟩ (r_X8_faults l dC dI cI cZ cL cJ s.heap.size mo m_la m_sz m_it m_st m_mv m_tp m_rd m_ac m_as m_wo m_ik m_ke m_tr ms mt ml mk mv mb mw mz mp ma mx 1 ) (cwV 1 hts gX8_readWind_X8_faults rfl rfl rfl (by decide +kernel) ⟨Nat.le_of_ble_eq_true rfl, Nat.le_of_ble_eq_true rfl⟩) (pvW 8 0 hK hP rfl rfl hc_10) rfl rfl hl.1 rfl (lv_room (Nat.le_of_ble_eq_true rfl)) dX8_readWind_53 ⟨Nat.le_of_ble_eq_true rfl, Nat.le_of_ble_eq_true rfl⟩) hS (fun q _ h => hc_10.2.2 q h) hc_10.2.2 (fun r_10 u_10 t_10 H1 locs ht hvm h_10 hB hz1 hk1 hS => ?_)
        refine xl_1_3 hB (fun mwn_10 hP1 hD1 hF_10_0 => ?_)
        clear hB
        rw [ht] at hP1
        obtain ⟨hP, hD⟩ := va_join (wr := [(xI m_tp cI 120 ft_), (xI m_rd cI 38 fr)]) (w1 := [(xo_8_rrriirrriiiiiiirrirrrrri mo m_la m_sz m_it ms mt m_st m_mv m_tp (nI mz) ml (nI mp) mk mv mb mwn_10 m_rd m_ac (nI ma) m_as m_wo m_ik m_ke m_tr (nI mx))]) hP hD [0] [1, 2] rfl rfl (by decide +kernel) (by decide +kernel) hk1 hc_10.2.2 hP1 hD1
        generalize H1 = H at hP hS ⊢
        have hP : va_P (dC, dI) vwCl [(xI m_tp cI 120 ft_), (xI m_rd cI 38 fr), (xo_8_rrriirrriiiiiiirrirrrrri mo m_la m_sz m_it ms mt m_st m_mv m_tp (nI mz) ml (nI mp) mk mv mb mwn_10 m_rd m_ac (nI ma) m_as m_wo m_ik m_ke m_tr (nI mx))] H := hP
        have hD := dto hP hD
        subst h_10
        have hX9 := cut2 (wc := [(xo_8_rrriirrriiiiiiirrirrrrri mo m_la m_sz m_it ms mt m_st m_mv m_tp (nI mz) ml (nI mp) mk mv mb mwn_10 m_rd m_ac (nI ma) m_as m_wo m_ik m_ke m_tr (nI mx)), (xI m_tp cI 120 ft_), (xI m_rd cI 38 fr)]) hP hD [2, 0, 1] (by decide +kernel) rfl
        exact W.zret (v := 0) hx hb hr (by decide) (fun t ht hW => ⟨⟨0, 0, rfl, ⟨rfl, Or.inl (⟨rfl, (lf_X8_readWind_12 hmp hmz hR c_2 c_8 c_9 hF_10_0)⟩)⟩, ⟨mk, mv, mb, mp, mwn_10, fr, va_Ht ht hX9.1, hX9.2, (by omega), (fun h_ => absurd h_ (by decide)), (lf_X8_readWind_10 hmp hmz hR c_2 c_8 c_9 hF_10_0), (lf_X8_readWind_11 hmp hmz hR c_2 c_8 c_9 hF_10_0)⟩⟩, hS.F ht⟩) hS.2.2 dX8_readWind_56
      · skip
        refine lv_aload_n hx hb dX8_readWind_39 rfl (lv_at hl 1 rfl) ?_
        refine va_get (D := (dC, dI)) (ci := 8) (v := .int mv) (C := RX8) (T := TX8) (N := 24) hx hb hts i_X8_readWind_X8 hown hK hP 0 rfl rfl 12 (by decide) (hts _ mx_X8_readWind_3) (fun _ h9 => h9) rfl dX8_readWind_40 ?_
        refine lv_bipush (v := 119) hx hb dX8_readWind_43 (by decide) ?_
        refine lv_icmp_ne (tgt := 52) hx hb dX8_readWind_45 (by decide) (fun c_11 => ?_) (fun c_11 => ?_)
        · skip
          refine lv_iconst (v := 1) hx hb dX8_readWind_52 (by decide) ?_
          have hc_12 := cutW (wc := [(xo_8_rrriirrriiiiiiirrirrrrri mo m_la m_sz m_it ms mt m_st m_mv m_tp (nI mz) ml (nI mp) mk mv mb mw m_rd m_ac (nI ma) m_as m_wo m_ik m_ke m_tr (nI mx))]) hP hD hS hA [0] (by decide +kernel) rfl
          refine va_calli (va_runV (As := [.int 1]) (rest := []) ⟨hx, hb, hml, hown, hts⟩ (r_X8_faults l dC dI cI cZ cL cJ s.heap.size mo m_la m_sz m_it m_st m_mv m_tp m_rd m_ac m_as m_wo m_ik m_ke m_tr ms mt ml mk mv mb mw mz mp ma mx 1 ) (cwV 1 hts gX8_readWind_X8_faults rfl rfl rfl (by decide +kernel) ⟨Nat.le_of_ble_eq_true rfl, Nat.le_of_ble_eq_true rfl⟩) (pvW 8 0 hK hP rfl rfl hc_12) rfl rfl hl.1 rfl (lv_room (Nat.le_of_ble_eq_true rfl)) dX8_readWind_53 ⟨Nat.le_of_ble_eq_true rfl, Nat.le_of_ble_eq_true rfl⟩) hS (fun q _ h => hc_12.2.2 q h) hc_12.2.2 (fun r_12 u_12 t_12 H1 locs ht hvm h_12 hB hz1 hk1 hS => ?_)
          refine xl_1_3 hB (fun mwn_12 hP1 hD1 hF_12_0 => ?_)
          clear hB
          rw [ht] at hP1
          obtain ⟨hP, hD⟩ := va_join (wr := [(xI m_tp cI 120 ft_), (xI m_rd cI 38 fr)]) (w1 := [(xo_8_rrriirrriiiiiiirrirrrrri mo m_la m_sz m_it ms mt m_st m_mv m_tp (nI mz) ml (nI mp) mk mv mb mwn_12 m_rd m_ac (nI ma) m_as m_wo m_ik m_ke m_tr (nI mx))]) hP hD [0] [1, 2] rfl rfl (by decide +kernel) (by decide +kernel) hk1 hc_12.2.2 hP1 hD1
          generalize H1 = H at hP hS ⊢
          have hP : va_P (dC, dI) vwCl [(xI m_tp cI 120 ft_), (xI m_rd cI 38 fr), (xo_8_rrriirrriiiiiiirrirrrrri mo m_la m_sz m_it ms mt m_st m_mv m_tp (nI mz) ml (nI mp) mk mv mb mwn_12 m_rd m_ac (nI ma) m_as m_wo m_ik m_ke m_tr (nI mx))] H := hP
          have hD := dto hP hD
          subst h_12
          have hX9 := cut2 (wc := [(xo_8_rrriirrriiiiiiirrirrrrri mo m_la m_sz m_it ms mt m_st m_mv m_tp (nI mz) ml (nI mp) mk mv mb mwn_12 m_rd m_ac (nI ma) m_as m_wo m_ik m_ke m_tr (nI mx)), (xI m_tp cI 120 ft_), (xI m_rd cI 38 fr)]) hP hD [2, 0, 1] (by decide +kernel) rfl
          exact W.zret (v := 0) hx hb hr (by decide) (fun t ht hW => ⟨⟨0, 0, rfl, ⟨rfl, Or.inl (⟨rfl, (lf_X8_readWind_15 hmp hmz hR c_2 c_8 c_9 c_11 hF_12_0)⟩)⟩, ⟨mk, mv, mb, mp, mwn_12, fr, va_Ht ht hX9.1, hX9.2, (by omega), (fun h_ => absurd h_ (by decide)), (lf_X8_readWind_13 hmp hmz hR c_2 c_8 c_9 c_11 hF_12_0), (lf_X8_readWind_14 hmp hmz hR c_2 c_8 c_9 c_11 hF_12_0)⟩⟩, hS.F ht⟩) hS.2.2 dX8_readWind_56
        · skip
          refine lv_iconst (v := 3) hx hb dX8_readWind_48 (by decide) ?_
          refine lv_goto (tgt := 53) hx hb dX8_readWind_49 (by decide) ?_
          have hc_13 := cutW (wc := [(xo_8_rrriirrriiiiiiirrirrrrri mo m_la m_sz m_it ms mt m_st m_mv m_tp (nI mz) ml (nI mp) mk mv mb mw m_rd m_ac (nI ma) m_as m_wo m_ik m_ke m_tr (nI mx))]) hP hD hS hA [0] (by decide +kernel) rfl
          refine va_calli (va_runV (As := [.int 3]) (rest := []) ⟨hx, hb, hml, hown, hts⟩ (r_X8_faults l dC dI cI cZ cL cJ s.heap.size mo m_la m_sz m_it m_st m_mv m_tp m_rd m_ac m_as m_wo m_ik m_ke m_tr ms mt ml mk mv mb mw mz mp ma mx 3 ) (cwV 1 hts gX8_readWind_X8_faults rfl rfl rfl (by decide +kernel) ⟨Nat.le_of_ble_eq_true rfl, Nat.le_of_ble_eq_true rfl⟩) (pvW 8 0 hK hP rfl rfl hc_13) rfl rfl hl.1 rfl (lv_room (Nat.le_of_ble_eq_true rfl)) dX8_readWind_53 ⟨Nat.le_of_ble_eq_true rfl, Nat.le_of_ble_eq_true rfl⟩) hS (fun q _ h => hc_13.2.2 q h) hc_13.2.2 (fun r_13 u_13 t_13 H1 locs ht hvm h_13 hB hz1 hk1 hS => ?_)
          refine xl_1_3 hB (fun mwn_13 hP1 hD1 hF_13_0 => ?_)
          clear hB
          rw [ht] at hP1
          obtain ⟨hP, hD⟩ := va_join (wr := [(xI m_tp cI 120 ft_), (xI m_rd cI 38 fr)]) (w1 := [(xo_8_rrriirrriiiiiiirrirrrrri mo m_la m_sz m_it ms mt m_st m_mv m_tp (nI mz) ml (nI mp) mk mv mb mwn_13 m_rd m_ac (nI ma) m_as m_wo m_ik m_ke m_tr (nI mx))]) hP hD [0] [1, 2] rfl rfl (by decide +kernel) (by decide +kernel) hk1 hc_13.2.2 hP1 hD1
          generalize H1 = H at hP hS ⊢
          have hP : va_P (dC, dI) vwCl [(xI m_tp cI 120 ft_), (xI m_rd cI 38 fr), (xo_8_rrriirrriiiiiiirrirrrrri mo m_la m_sz m_it ms mt m_st m_mv m_tp (nI mz) ml (nI mp) mk mv mb mwn_13 m_rd m_ac (nI ma) m_as m_wo m_ik m_ke m_tr (nI mx))] H := hP
          have hD := dto hP hD
          subst h_13
          have hX9 := cut2 (wc := [(xo_8_rrriirrriiiiiiirrirrrrri mo m_la m_sz m_it ms mt m_st m_mv m_tp (nI mz) ml (nI mp) mk mv mb mwn_13 m_rd m_ac (nI ma) m_as m_wo m_ik m_ke m_tr (nI mx)), (xI m_tp cI 120 ft_), (xI m_rd cI 38 fr)]) hP hD [2, 0, 1] (by decide +kernel) rfl
          exact W.zret (v := 0) hx hb hr (by decide) (fun t ht hW => ⟨⟨0, 0, rfl, ⟨rfl, Or.inl (⟨rfl, (lf_X8_readWind_18 hmp hmz hR c_2 c_8 c_9 c_11 hF_13_0)⟩)⟩, ⟨mk, mv, mb, mp, mwn_13, fr, va_Ht ht hX9.1, hX9.2, (by omega), (fun h_ => absurd h_ (by decide)), (lf_X8_readWind_16 hmp hmz hR c_2 c_8 c_9 c_11 hF_13_0), (lf_X8_readWind_17 hmp hmz hR c_2 c_8 c_9 c_11 hF_13_0)⟩⟩, hS.F ht⟩) hS.2.2 dX8_readWind_56
    · skip
      refine lv_iload_n hx hb dX8_readWind_24 rfl (lv_at hl 0 rfl) ?_
      refine lv_bipush (v := 6) hx hb dX8_readWind_25 (by decide) ?_
      refine lv_icmp_ne (tgt := 57) hx hb dX8_readWind_27 (by decide) (fun c_14 => ?_) (fun c_14 => ?_)
      · have c_14 : ¬ (w9 = 6) := fun q_ => c_14 ((nI_eq (a := w9) (b := 6) (by omega) (by omega)).mpr q_)
        refine lv_aload_n hx hb dX8_readWind_57 rfl (lv_at hl 1 rfl) ?_
        have hc_15 := cutW (wc := [(xo_8_rrriirrriiiiiiirrirrrrri mo m_la m_sz m_it ms mt m_st m_mv m_tp (nI mz) ml (nI mp) mk mv mb mw m_rd m_ac (nI ma) m_as m_wo m_ik m_ke m_tr (nI mx)), (xI m_tp cI 120 ft_)]) hP hD hS hA [0, 1] (by decide +kernel) rfl
        refine va_callv (va_runV (As := []) (rest := []) ⟨hx, hb, hml, hown, hts⟩ (r_X8_nextToken l dC dI cI cZ cL cJ s.heap.size mo m_la m_sz m_it m_st m_mv m_tp m_rd m_ac m_as m_wo m_ik m_ke m_tr ms mt ml mk mv mb mw mz mp ma mx ft_ (by omega) (hmz)) (cwV 0 hts gX8_readWind_X8_nextToken rfl rfl rfl (by decide +kernel) ⟨Nat.le_of_ble_eq_true rfl, Nat.le_of_ble_eq_true rfl⟩) (pvW 8 0 hK hP rfl rfl hc_15) rfl rfl hl.1 rfl (lv_room (Nat.le_of_ble_eq_true rfl)) dX8_readWind_58 ⟨Nat.le_of_ble_eq_true rfl, Nat.le_of_ble_eq_true rfl⟩) hS (fun q _ h => hc_15.2.2 q h) hc_15.2.2 (fun u_15 t_15 H1 locs ht hvm h_15 hB hz1 hk1 hS => ?_)
        refine xl_4_4 hB (fun mkn_15 mvn_15 mbn_15 mpn_15 hP1 hD1 hF_15_0 hF_15_1 => ?_)
        clear hB
        rw [ht] at hP1
        obtain ⟨hP, hD⟩ := va_join (wr := [(xI m_rd cI 38 fr)]) (w1 := [(xo_8_rrriirrriiiiiiirrirrrrri mo m_la m_sz m_it ms mt m_st m_mv m_tp (nI mz) ml (nI mpn_15) mkn_15 mvn_15 mbn_15 mw m_rd m_ac (nI ma) m_as m_wo m_ik m_ke m_tr (nI mx)), (xI m_tp cI 120 ft_)]) hP hD [0, 1] [2] rfl rfl (by decide +kernel) (by decide +kernel) hk1 hc_15.2.2 hP1 hD1
        generalize H1 = H at hP hS ⊢
        have hP : va_P (dC, dI) vwCl [(xI m_rd cI 38 fr), (xo_8_rrriirrriiiiiiirrirrrrri mo m_la m_sz m_it ms mt m_st m_mv m_tp (nI mz) ml (nI mpn_15) mkn_15 mvn_15 mbn_15 mw m_rd m_ac (nI ma) m_as m_wo m_ik m_ke m_tr (nI mx)), (xI m_tp cI 120 ft_)] H := hP
        have hD := dto hP hD
        refine lv_aload_n hx hb dX8_readWind_61 rfl (lv_at hl 1 rfl) ?_
        refine va_get (D := (dC, dI)) (ci := 8) (v := .ref m_rd) (C := RX8) (T := TX8) (N := 24) hx hb hts i_X8_readWind_X8 hown hK hP 1 rfl rfl 15 (by decide) (hts _ mx_X8_readWind_1) (fun _ h9 => h9) rfl dX8_readWind_62 ?_
        refine lv_iconst (v := 3) hx hb dX8_readWind_65 (by decide) ?_
        refine lv_dup2_11 hx hb dX8_readWind_66 rfl rfl ?_
        refine va_iald hx hb hK hP 0 0 rfl rfl (by unfold vp_in; decide) dX8_readWind_67 ?_
        refine lv_topi (fun v_16 e_16 => ?_)
        obtain rfl : v_16 = (nI w9) := (e_16).trans hR.2.2.1
        refine lv_iconst (v := 1) hx hb dX8_readWind_68 (by decide) ?_
        refine lv_iadd hx hb dX8_readWind_69 ?_
        refine lv_topi (fun v_17 e_17 => ?_)
        obtain rfl : v_17 = (nI (w9 + 1)) := (e_17).trans (nI_add w9 1)
        refine va_iast hx hb hK hP hD hS 0 0 rfl rfl (by unfold vp_in; decide) dX8_readWind_70 (fun H locs hP hD hS => ?_)
        generalize hg_18 : upd fr (3 : Int32).toNatClampNeg (nI (w9 + 1)) = g_18 at hP hD
        have hu_18 : g_18 = upd fr 3 (nI (w9 + 1)) := hg_18.symm
        have hR_18 : okR g_18 c9 (w9 + 1) k9 k9 := okR_3 hR hg_18 (by omega)
        have hP : va_P (dC, dI) vwCl [(xI m_rd cI 38 g_18), (xo_8_rrriirrriiiiiiirrirrrrri mo m_la m_sz m_it ms mt m_st m_mv m_tp (nI mz) ml (nI mpn_15) mkn_15 mvn_15 mbn_15 mw m_rd m_ac (nI ma) m_as m_wo m_ik m_ke m_tr (nI mx)), (xI m_tp cI 120 ft_)] H := hP
        have hD := dto hP hD
        refine lv_aload_n hx hb dX8_readWind_71 rfl (lv_at hl 1 rfl) ?_
        refine lv_iconst (v := 0) hx hb dX8_readWind_72 (by decide) ?_
        refine lv_iconst (v := 4) hx hb dX8_readWind_73 (by decide) ?_
        refine lv_bipush (v := 8) hx hb dX8_readWind_74 (by decide) ?_
        refine lv_iload_n hx hb dX8_readWind_76 rfl (lv_at hl 0 rfl) ?_
        refine lv_iadd hx hb dX8_readWind_77 ?_
        refine lv_topi (fun v_19 e_19 => ?_)
        obtain rfl : v_19 = (nI (8 + w9)) := (e_19).trans (nI_add 8 w9)
        refine lv_bipush (v := 59) hx hb dX8_readWind_78 (by decide) ?_
        have hc_20 := cutW (wc := [(xo_8_rrriirrriiiiiiirrirrrrri mo m_la m_sz m_it ms mt m_st m_mv m_tp (nI mz) ml (nI mpn_15) mkn_15 mvn_15 mbn_15 mw m_rd m_ac (nI ma) m_as m_wo m_ik m_ke m_tr (nI mx)), (xI m_tp cI 120 ft_), (xI m_rd cI 38 g_18)]) hP hD hS hA [1, 2, 0] (by decide +kernel) rfl
        refine va_calli (va_runV (As := [.int 0, .int 4, .int (nI (8 + w9)), .int 59]) (rest := []) ⟨hx, hb, hml, hown, hts⟩ (r_X8_takesNumber l dC dI cI cZ cL cJ H.size mo m_la m_sz m_it m_st m_mv m_tp m_rd m_ac m_as m_wo m_ik m_ke m_tr ms mt ml mkn_15 mvn_15 mbn_15 mw mz mpn_15 ma mx ft_ g_18 0 4 (8 + w9) 59 (by omega) (hmz) (by omega)) (cwV 4 hts gX8_readWind_X8_takesNumber rfl rfl rfl (by decide +kernel) ⟨Nat.le_of_ble_eq_true rfl, Nat.le_of_ble_eq_true rfl⟩) (pvW 8 1 hK hP rfl rfl hc_20) rfl rfl hl.1 rfl (lv_room (Nat.le_of_ble_eq_true rfl)) dX8_readWind_80 ⟨Nat.le_of_ble_eq_true rfl, Nat.le_of_ble_eq_true rfl⟩) hS (fun q _ h => hc_20.2.2 q h) hc_20.2.2 (fun r_20 u_20 t_20 H1 locs ht hvm h_20 hB hz1 hk1 hS => ?_)
        refine xl_6_7 hB (fun mkn_20 mvn_20 mbn_20 mpn_20 mwn_20 frn_20 hP1 hD1 hF_20_0 hF_20_1 hF_20_2 hF_20_3 hF_20_4 => ?_)
        clear hB
        rw [ht] at hP1
        obtain ⟨hu_20, h_20⟩ := h_20
        subst hu_20
        obtain ⟨hP, hD⟩ := va_join (wr := []) (w1 := [(xo_8_rrriirrriiiiiiirrirrrrri mo m_la m_sz m_it ms mt m_st m_mv m_tp (nI mz) ml (nI mpn_20) mkn_20 mvn_20 mbn_20 mwn_20 m_rd m_ac (nI ma) m_as m_wo m_ik m_ke m_tr (nI mx)), (xI m_tp cI 120 ft_), (xI m_rd cI 38 frn_20)]) hP hD [1, 2, 0] [] rfl rfl (by decide +kernel) (by decide +kernel) hk1 hc_20.2.2 hP1 hD1
        generalize H1 = H at hP hS ⊢
        have hP : va_P (dC, dI) vwCl [(xo_8_rrriirrriiiiiiirrirrrrri mo m_la m_sz m_it ms mt m_st m_mv m_tp (nI mz) ml (nI mpn_20) mkn_20 mvn_20 mbn_20 mwn_20 m_rd m_ac (nI ma) m_as m_wo m_ik m_ke m_tr (nI mx)), (xI m_tp cI 120 ft_), (xI m_rd cI 38 frn_20)] H := hP
        have hD := dto hP hD
        rcases h_20 with ⟨h_20, f_20_0_0⟩ | ⟨h_20, f_20_1_0⟩
        · subst h_20
          have hX9 := cut2 (wc := [(xo_8_rrriirrriiiiiiirrirrrrri mo m_la m_sz m_it ms mt m_st m_mv m_tp (nI mz) ml (nI mpn_20) mkn_20 mvn_20 mbn_20 mwn_20 m_rd m_ac (nI ma) m_as m_wo m_ik m_ke m_tr (nI mx)), (xI m_tp cI 120 ft_), (xI m_rd cI 38 frn_20)]) hP hD [0, 1, 2] (by decide +kernel) rfl
          exact W.zret (v := 0) hx hb hr (by decide) (fun t ht hW => ⟨⟨0, 0, rfl, ⟨rfl, Or.inl (⟨rfl, (lf_X8_readWind_21 hmp hmz hR c_2 c_8 c_14 hF_15_0 hF_15_1 hu_18 hF_20_0 hF_20_2 hF_20_3 hF_20_4 f_20_0_0)⟩)⟩, ⟨mkn_20, mvn_20, mbn_20, mpn_20, mwn_20, frn_20, va_Ht ht hX9.1, hX9.2, (by omega), (fun h_ => absurd h_ (by decide)), (lf_X8_readWind_19 hmp hmz hR c_2 c_8 c_14 hF_15_0 hF_15_1 hu_18 hF_20_0 hF_20_2 hF_20_3 hF_20_4 f_20_0_0), (lf_X8_readWind_20 hmp hmz hR c_2 c_8 c_14 hF_15_0 hF_15_1 hu_18 hF_20_0 hF_20_2 hF_20_3 hF_20_4 f_20_0_0)⟩⟩, hS.F ht⟩) hS.2.2 dX8_readWind_83
        · subst h_20
          obtain ⟨tv_20, te_20, tf_20⟩ := hF_20_1 rfl
          have hR_20 := okR_off hR_18 te_20 (by omega) (by omega) (by omega) (by omega) (by omega)
          have hX9 := cut2 (wc := [(xo_8_rrriirrriiiiiiirrirrrrri mo m_la m_sz m_it ms mt m_st m_mv m_tp (nI mz) ml (nI mpn_20) mkn_20 mvn_20 mbn_20 mwn_20 m_rd m_ac (nI ma) m_as m_wo m_ik m_ke m_tr (nI mx)), (xI m_tp cI 120 ft_), (xI m_rd cI 38 frn_20)]) hP hD [0, 1, 2] (by decide +kernel) rfl
          exact W.zret (v := 1) hx hb hr (by decide) (fun t ht hW => ⟨⟨1, 1, rfl, ⟨rfl, Or.inr (⟨rfl, (lf_X8_readWind_24 hmp hmz hR c_2 c_8 c_14 hF_15_0 hF_15_1 hu_18 hF_20_0 hF_20_2 hF_20_3 hF_20_4 f_20_1_0 hR_20)⟩)⟩, ⟨mkn_20, mvn_20, mbn_20, mpn_20, mwn_20, frn_20, va_Ht ht hX9.1, hX9.2, (by omega), (fun _ => ⟨hR_20, by omega⟩), (lf_X8_readWind_22 hmp hmz hR c_2 c_8 c_14 hF_15_0 hF_15_1 hu_18 hF_20_0 hF_20_2 hF_20_3 hF_20_4 f_20_1_0 hR_20), (lf_X8_readWind_23 hmp hmz hR c_2 c_8 c_14 hF_15_0 hF_15_1 hu_18 hF_20_0 hF_20_2 hF_20_3 hF_20_4 f_20_1_0 hR_20)⟩⟩, hS.F ht⟩) hS.2.2 dX8_readWind_83
      · have c_14 : w9 = 6 := (nI_eq (a := w9) (b := 6) (by omega) (by omega)).mp c_14
        refine lv_aload_n hx hb dX8_readWind_30 rfl (lv_at hl 1 rfl) ?_
        refine lv_aload_n hx hb dX8_readWind_31 rfl (lv_at hl 1 rfl) ?_
        refine va_get (D := (dC, dI)) (ci := 8) (v := .int mk) (C := RX8) (T := TX8) (N := 24) hx hb hts i_X8_readWind_X8 hown hK hP 0 rfl rfl 11 (by decide) (hts _ mx_X8_readWind_2) (fun _ h9 => h9) rfl dX8_readWind_32 ?_
        refine lv_iconst (v := 1) hx hb dX8_readWind_35 (by decide) ?_
        refine lv_icmp_ne (tgt := 52) hx hb dX8_readWind_36 (by decide) (fun c_21 => ?_) (fun c_21 => ?_)
        · skip
          refine lv_iconst (v := 1) hx hb dX8_readWind_52 (by decide) ?_
          have hc_22 := cutW (wc := [(xo_8_rrriirrriiiiiiirrirrrrri mo m_la m_sz m_it ms mt m_st m_mv m_tp (nI mz) ml (nI mp) mk mv mb mw m_rd m_ac (nI ma) m_as m_wo m_ik m_ke m_tr (nI mx))]) hP hD hS hA [0] (by decide +kernel) rfl
          refine va_calli (va_runV (As := [.int 1]) (rest := []) ⟨hx, hb, hml, hown, hts⟩ (r_X8_faults l dC dI cI cZ cL cJ s.heap.size mo m_la m_sz m_it m_st m_mv m_tp m_rd m_ac m_as m_wo m_ik m_ke m_tr ms mt ml mk mv mb mw mz mp ma mx 1 ) (cwV 1 hts gX8_readWind_X8_faults rfl rfl rfl (by decide +kernel) ⟨Nat.le_of_ble_eq_true rfl, Nat.le_of_ble_eq_true rfl⟩) (pvW 8 0 hK hP rfl rfl hc_22) rfl rfl hl.1 rfl (lv_room (Nat.le_of_ble_eq_true rfl)) dX8_readWind_53 ⟨Nat.le_of_ble_eq_true rfl, Nat.le_of_ble_eq_true rfl⟩) hS (fun q _ h => hc_22.2.2 q h) hc_22.2.2 (fun r_22 u_22 t_22 H1 locs ht hvm h_22 hB hz1 hk1 hS => ?_)
          refine xl_1_3 hB (fun mwn_22 hP1 hD1 hF_22_0 => ?_)
          clear hB
          rw [ht] at hP1
          obtain ⟨hP, hD⟩ := va_join (wr := [(xI m_tp cI 120 ft_), (xI m_rd cI 38 fr)]) (w1 := [(xo_8_rrriirrriiiiiiirrirrrrri mo m_la m_sz m_it ms mt m_st m_mv m_tp (nI mz) ml (nI mp) mk mv mb mwn_22 m_rd m_ac (nI ma) m_as m_wo m_ik m_ke m_tr (nI mx))]) hP hD [0] [1, 2] rfl rfl (by decide +kernel) (by decide +kernel) hk1 hc_22.2.2 hP1 hD1
          generalize H1 = H at hP hS ⊢
          have hP : va_P (dC, dI) vwCl [(xI m_tp cI 120 ft_), (xI m_rd cI 38 fr), (xo_8_rrriirrriiiiiiirrirrrrri mo m_la m_sz m_it ms mt m_st m_mv m_tp (nI mz) ml (nI mp) mk mv mb mwn_22 m_rd m_ac (nI ma) m_as m_wo m_ik m_ke m_tr (nI mx))] H := hP
          have hD := dto hP hD
          subst h_22
          have hX9 := cut2 (wc := [(xo_8_rrriirrriiiiiiirrirrrrri mo m_la m_sz m_it ms mt m_st m_mv m_tp (nI mz) ml (nI mp) mk mv mb mwn_22 m_rd m_ac (nI ma) m_as m_wo m_ik m_ke m_tr (nI mx)), (xI m_tp cI 120 ft_), (xI m_rd cI 38 fr)]) hP hD [2, 0, 1] (by decide +kernel) rfl
          exact W.zret (v := 0) hx hb hr (by decide) (fun t ht hW => ⟨⟨0, 0, rfl, ⟨rfl, Or.inl (⟨rfl, (lf_X8_readWind_27 hmp hmz hR c_2 c_8 c_14 c_21 hF_22_0)⟩)⟩, ⟨mk, mv, mb, mp, mwn_22, fr, va_Ht ht hX9.1, hX9.2, (by omega), (fun h_ => absurd h_ (by decide)), (lf_X8_readWind_25 hmp hmz hR c_2 c_8 c_14 c_21 hF_22_0), (lf_X8_readWind_26 hmp hmz hR c_2 c_8 c_14 c_21 hF_22_0)⟩⟩, hS.F ht⟩) hS.2.2 dX8_readWind_56
        · skip
          refine lv_aload_n hx hb dX8_readWind_39 rfl (lv_at hl 1 rfl) ?_
          refine va_get (D := (dC, dI)) (ci := 8) (v := .int mv) (C := RX8) (T := TX8) (N := 24) hx hb hts i_X8_readWind_X8 hown hK hP 0 rfl rfl 12 (by decide) (hts _ mx_X8_readWind_3) (fun _ h9 => h9) rfl dX8_readWind_40 ?_
          refine lv_bipush (v := 119) hx hb dX8_readWind_43 (by decide) ?_
          refine lv_icmp_ne (tgt := 52) hx hb dX8_readWind_45 (by decide) (fun c_23 => ?_) (fun c_23 => ?_)
          · skip
            refine lv_iconst (v := 1) hx hb dX8_readWind_52 (by decide) ?_
            have hc_24 := cutW (wc := [(xo_8_rrriirrriiiiiiirrirrrrri mo m_la m_sz m_it ms mt m_st m_mv m_tp (nI mz) ml (nI mp) mk mv mb mw m_rd m_ac (nI ma) m_as m_wo m_ik m_ke m_tr (nI mx))]) hP hD hS hA [0] (by decide +kernel) rfl
            refine va_calli (va_runV (As := [.int 1]) (rest := []) ⟨hx, hb, hml, hown, hts⟩ (r_X8_faults l dC dI cI cZ cL cJ s.heap.size mo m_la m_sz m_it m_st m_mv m_tp m_rd m_ac m_as m_wo m_ik m_ke m_tr ms mt ml mk mv mb mw mz mp ma mx 1 ) (cwV 1 hts gX8_readWind_X8_faults rfl rfl rfl (by decide +kernel) ⟨Nat.le_of_ble_eq_true rfl, Nat.le_of_ble_eq_true rfl⟩) (pvW 8 0 hK hP rfl rfl hc_24) rfl rfl hl.1 rfl (lv_room (Nat.le_of_ble_eq_true rfl)) dX8_readWind_53 ⟨Nat.le_of_ble_eq_true rfl, Nat.le_of_ble_eq_true rfl⟩) hS (fun q _ h => hc_24.2.2 q h) hc_24.2.2 (fun r_24 u_24 t_24 H1 locs ht hvm h_24 hB hz1 hk1 hS => ?_)
            refine xl_1_3 hB (fun mwn_24 hP1 hD1 hF_24_0 => ?_)
            clear hB
            rw [ht] at hP1
            obtain ⟨hP, hD⟩ := va_join (wr := [(xI m_tp cI 120 ft_), (xI m_rd cI 38 fr)]) (w1 := [(xo_8_rrriirrriiiiiiirrirrrrri mo m_la m_sz m_it ms mt m_st m_mv m_tp (nI mz) ml (nI mp) mk mv mb mwn_24 m_rd m_ac (nI ma) m_as m_wo m_ik m_ke m_tr (nI mx))]) hP hD [0] [1, 2] rfl rfl (by decide +kernel) (by decide +kernel) hk1 hc_24.2.2 hP1 hD1
            generalize H1 = H at hP hS ⊢
            have hP : va_P (dC, dI) vwCl [(xI m_tp cI 120 ft_), (xI m_rd cI 38 fr), (xo_8_rrriirrriiiiiiirrirrrrri mo m_la m_sz m_it ms mt m_st m_mv m_tp (nI mz) ml (nI mp) mk mv mb mwn_24 m_rd m_ac (nI ma) m_as m_wo m_ik m_ke m_tr (nI mx))] H := hP
            have hD := dto hP hD
            subst h_24
            have hX9 := cut2 (wc := [(xo_8_rrriirrriiiiiiirrirrrrri mo m_la m_sz m_it ms mt m_st m_mv m_tp (nI mz) ml (nI mp) mk mv mb mwn_24 m_rd m_ac (nI ma) m_as m_wo m_ik m_ke m_tr (nI mx)), (xI m_tp cI 120 ft_), (xI m_rd cI 38 fr)]) hP hD [2, 0, 1] (by decide +kernel) rfl
            exact W.zret (v := 0) hx hb hr (by decide) (fun t ht hW => ⟨⟨0, 0, rfl, ⟨rfl, Or.inl (⟨rfl, (lf_X8_readWind_30 hmp hmz hR c_2 c_8 c_14 c_21 c_23 hF_24_0)⟩)⟩, ⟨mk, mv, mb, mp, mwn_24, fr, va_Ht ht hX9.1, hX9.2, (by omega), (fun h_ => absurd h_ (by decide)), (lf_X8_readWind_28 hmp hmz hR c_2 c_8 c_14 c_21 c_23 hF_24_0), (lf_X8_readWind_29 hmp hmz hR c_2 c_8 c_14 c_21 c_23 hF_24_0)⟩⟩, hS.F ht⟩) hS.2.2 dX8_readWind_56
          · skip
            refine lv_iconst (v := 3) hx hb dX8_readWind_48 (by decide) ?_
            refine lv_goto (tgt := 53) hx hb dX8_readWind_49 (by decide) ?_
            have hc_25 := cutW (wc := [(xo_8_rrriirrriiiiiiirrirrrrri mo m_la m_sz m_it ms mt m_st m_mv m_tp (nI mz) ml (nI mp) mk mv mb mw m_rd m_ac (nI ma) m_as m_wo m_ik m_ke m_tr (nI mx))]) hP hD hS hA [0] (by decide +kernel) rfl
            refine va_calli (va_runV (As := [.int 3]) (rest := []) ⟨hx, hb, hml, hown, hts⟩ (r_X8_faults l dC dI cI cZ cL cJ s.heap.size mo m_la m_sz m_it m_st m_mv m_tp m_rd m_ac m_as m_wo m_ik m_ke m_tr ms mt ml mk mv mb mw mz mp ma mx 3 ) (cwV 1 hts gX8_readWind_X8_faults rfl rfl rfl (by decide +kernel) ⟨Nat.le_of_ble_eq_true rfl, Nat.le_of_ble_eq_true rfl⟩) (pvW 8 0 hK hP rfl rfl hc_25) rfl rfl hl.1 rfl (lv_room (Nat.le_of_ble_eq_true rfl)) dX8_readWind_53 ⟨Nat.le_of_ble_eq_true rfl, Nat.le_of_ble_eq_true rfl⟩) hS (fun q _ h => hc_25.2.2 q h) hc_25.2.2 (fun r_25 u_25 t_25 H1 locs ht hvm h_25 hB hz1 hk1 hS => ?_)
            refine xl_1_3 hB (fun mwn_25 hP1 hD1 hF_25_0 => ?_)
            clear hB
            rw [ht] at hP1
            obtain ⟨hP, hD⟩ := va_join (wr := [(xI m_tp cI 120 ft_), (xI m_rd cI 38 fr)]) (w1 := [(xo_8_rrriirrriiiiiiirrirrrrri mo m_la m_sz m_it ms mt m_st m_mv m_tp (nI mz) ml (nI mp) mk mv mb mwn_25 m_rd m_ac (nI ma) m_as m_wo m_ik m_ke m_tr (nI mx))]) hP hD [0] [1, 2] rfl rfl (by decide +kernel) (by decide +kernel) hk1 hc_25.2.2 hP1 hD1
            generalize H1 = H at hP hS ⊢
            have hP : va_P (dC, dI) vwCl [(xI m_tp cI 120 ft_), (xI m_rd cI 38 fr), (xo_8_rrriirrriiiiiiirrirrrrri mo m_la m_sz m_it ms mt m_st m_mv m_tp (nI mz) ml (nI mp) mk mv mb mwn_25 m_rd m_ac (nI ma) m_as m_wo m_ik m_ke m_tr (nI mx))] H := hP
            have hD := dto hP hD
            subst h_25
            have hX9 := cut2 (wc := [(xo_8_rrriirrriiiiiiirrirrrrri mo m_la m_sz m_it ms mt m_st m_mv m_tp (nI mz) ml (nI mp) mk mv mb mwn_25 m_rd m_ac (nI ma) m_as m_wo m_ik m_ke m_tr (nI mx)), (xI m_tp cI 120 ft_), (xI m_rd cI 38 fr)]) hP hD [2, 0, 1] (by decide +kernel) rfl
            exact W.zret (v := 0) hx hb hr (by decide) (fun t ht hW => ⟨⟨0, 0, rfl, ⟨rfl, Or.inl (⟨rfl, (lf_X8_readWind_33 hmp hmz hR c_2 c_8 c_14 c_21 c_23 hF_25_0)⟩)⟩, ⟨mk, mv, mb, mp, mwn_25, fr, va_Ht ht hX9.1, hX9.2, (by omega), (fun h_ => absurd h_ (by decide)), (lf_X8_readWind_31 hmp hmz hR c_2 c_8 c_14 c_21 c_23 hF_25_0), (lf_X8_readWind_32 hmp hmz hR c_2 c_8 c_14 c_21 c_23 hF_25_0)⟩⟩, hS.F ht⟩) hS.2.2 dX8_readWind_56
theorem lf_X8_readSound_1 {mk : Int32} {mv : Int32} {mb : Int32} {mz : Nat} {mp : Nat} {ft_ : Nat → Int32} {fr : Nat → Int32} {c9 : Nat} {w9 : Nat} {k9 : Nat} {mwn_5 : Int32} (hmp : mp ≤ mz) (hmz : mz ≤ 120) (hR : okR fr c9 w9 k9 k9) (c_2 : ¬ (mk = 1)) (hF_5_0 : mwn_5 = 1) : sS ft_ mz ((mk, mv, mb, mp), m38 fr) = ((mk, mv, mb, mp), m38 fr) := by
  first
  | (have a := rsn (mb := mb) hR c_2 h_6 c_7 c_11 hF_12_1 hu_14 hu_17
     have b := sS_1 (s := ((mk, mv, mb, mp), m38 fr)) a.2.1 a.2.2.1 a.2.2.2 hF_12_1 e_19 hF_21_2 hF_21_3
     first
     | exact sS_n a.1 b.1 b.2.1 (fun q => f_21_0_0 (b.2.2.mp q))
     | exact sS_y a.1 b.1 b.2.1 (b.2.2.mpr f_21_1_0) a.2.2.2 hF_25_2 hF_25_3)
  | (have a3 : m38 fr 3 = nI w9 := (m38_at (by decide)).trans hR.2.2.1
     have a4 : m38 fr 4 = nI k9 := (m38_at (by decide)).trans hR.2.2.2.2.1
     have a0 : m38 fr 0 = nI c9 := (m38_at (by decide)).trans hR.1
     have b3 : (nI w9).toNatClampNeg = w9 := nI_clamp (Nat.lt_of_le_of_lt hR.2.2.2.1 (by decide))
     have b4 : (nI k9).toNatClampNeg = k9 := nI_clamp (Nat.lt_of_le_of_lt hR.2.2.2.2.2.1 (by decide))
     have d3 : nI w9 = 6 ↔ w9 = 6 := nI_eq (b := 6) (Nat.lt_of_le_of_lt hR.2.2.2.1 (by decide)) (by decide)
     have d4 : nI k9 = 6 ↔ k9 = 6 := nI_eq (b := 6) (Nat.lt_of_le_of_lt hR.2.2.2.2.2.1 (by decide)) (by decide)
     have s3 : nI w9 + 1 = nI (w9 + 1) := nI_add w9 1
     have s4 : nI k9 + 1 = nI (k9 + 1) := nI_add k9 1
     have u3 := m38_up (f := fr) (i := 3) (v := nI (w9 + 1)) (by decide)
     simp only [sS, sE, sGG, sG0, sG1, sUb, sRb, sRa, kdM, uT, kG, a0, a4, b4, d4, s4] at *
     grind [m38_up])
theorem lf_X8_readSound_2 {mk : Int32} {mv : Int32} {mb : Int32} {mz : Nat} {mp : Nat} {ft_ : Nat → Int32} {fr : Nat → Int32} {c9 : Nat} {w9 : Nat} {k9 : Nat} {mwn_5 : Int32} (hmp : mp ≤ mz) (hmz : mz ≤ 120) (hR : okR fr c9 w9 k9 k9) (c_2 : ¬ (mk = 1)) (hF_5_0 : mwn_5 = 1) : (¬ sGG ft_ mz ((mk, mv, mb, mp), m38 fr) → mwn_5 = sE ft_ mz ((mk, mv, mb, mp), m38 fr)) := by
  first
  | (have a := rsn (mb := mb) hR c_2 h_6 c_7 c_11 hF_12_1 hu_14 hu_17
     have b := sS_1 (s := ((mk, mv, mb, mp), m38 fr)) a.2.1 a.2.2.1 a.2.2.2 hF_12_1 e_19 hF_21_2 hF_21_3
     first
     | exact sS_n a.1 b.1 b.2.1 (fun q => f_21_0_0 (b.2.2.mp q))
     | exact sS_y a.1 b.1 b.2.1 (b.2.2.mpr f_21_1_0) a.2.2.2 hF_25_2 hF_25_3)
  | (have a3 : m38 fr 3 = nI w9 := (m38_at (by decide)).trans hR.2.2.1
     have a4 : m38 fr 4 = nI k9 := (m38_at (by decide)).trans hR.2.2.2.2.1
     have a0 : m38 fr 0 = nI c9 := (m38_at (by decide)).trans hR.1
     have b3 : (nI w9).toNatClampNeg = w9 := nI_clamp (Nat.lt_of_le_of_lt hR.2.2.2.1 (by decide))
     have b4 : (nI k9).toNatClampNeg = k9 := nI_clamp (Nat.lt_of_le_of_lt hR.2.2.2.2.2.1 (by decide))
     have d3 : nI w9 = 6 ↔ w9 = 6 := nI_eq (b := 6) (Nat.lt_of_le_of_lt hR.2.2.2.1 (by decide)) (by decide)
     have d4 : nI k9 = 6 ↔ k9 = 6 := nI_eq (b := 6) (Nat.lt_of_le_of_lt hR.2.2.2.2.2.1 (by decide)) (by decide)
     have s3 : nI w9 + 1 = nI (w9 + 1) := nI_add w9 1
     have s4 : nI k9 + 1 = nI (k9 + 1) := nI_add k9 1
     have u3 := m38_up (f := fr) (i := 3) (v := nI (w9 + 1)) (by decide)
     simp only [sS, sE, sGG, sG0, sG1, sUb, sRb, sRa, kdM, uT, kG, a0, a4, b4, d4, s4] at *
     grind [m38_up])
theorem lf_X8_readSound_3 {mk : Int32} {mv : Int32} {mb : Int32} {mz : Nat} {mp : Nat} {ft_ : Nat → Int32} {fr : Nat → Int32} {c9 : Nat} {w9 : Nat} {k9 : Nat} {mwn_5 : Int32} (hmp : mp ≤ mz) (hmz : mz ≤ 120) (hR : okR fr c9 w9 k9 k9) (c_2 : ¬ (mk = 1)) (hF_5_0 : mwn_5 = 1) : ¬ sGG ft_ mz ((mk, mv, mb, mp), m38 fr) := by
  first
  | (have a := rsn (mb := mb) hR c_2 h_6 c_7 c_11 hF_12_1 hu_14 hu_17
     have b := sS_1 (s := ((mk, mv, mb, mp), m38 fr)) a.2.1 a.2.2.1 a.2.2.2 hF_12_1 e_19 hF_21_2 hF_21_3
     first
     | exact sS_n a.1 b.1 b.2.1 (fun q => f_21_0_0 (b.2.2.mp q))
     | exact sS_y a.1 b.1 b.2.1 (b.2.2.mpr f_21_1_0) a.2.2.2 hF_25_2 hF_25_3)
  | (have a3 : m38 fr 3 = nI w9 := (m38_at (by decide)).trans hR.2.2.1
     have a4 : m38 fr 4 = nI k9 := (m38_at (by decide)).trans hR.2.2.2.2.1
     have a0 : m38 fr 0 = nI c9 := (m38_at (by decide)).trans hR.1
     have b3 : (nI w9).toNatClampNeg = w9 := nI_clamp (Nat.lt_of_le_of_lt hR.2.2.2.1 (by decide))
     have b4 : (nI k9).toNatClampNeg = k9 := nI_clamp (Nat.lt_of_le_of_lt hR.2.2.2.2.2.1 (by decide))
     have d3 : nI w9 = 6 ↔ w9 = 6 := nI_eq (b := 6) (Nat.lt_of_le_of_lt hR.2.2.2.1 (by decide)) (by decide)
     have d4 : nI k9 = 6 ↔ k9 = 6 := nI_eq (b := 6) (Nat.lt_of_le_of_lt hR.2.2.2.2.2.1 (by decide)) (by decide)
     have s3 : nI w9 + 1 = nI (w9 + 1) := nI_add w9 1
     have s4 : nI k9 + 1 = nI (k9 + 1) := nI_add k9 1
     have u3 := m38_up (f := fr) (i := 3) (v := nI (w9 + 1)) (by decide)
     simp only [sS, sE, sGG, sG0, sG1, sUb, sRb, sRa, kdM, uT, kG, a0, a4, b4, d4, s4] at *
     grind [m38_up])
theorem lf_X8_readSound_4 {mk : Int32} {mv : Int32} {mb : Int32} {mz : Nat} {mp : Nat} {ft_ : Nat → Int32} {fr : Nat → Int32} {c9 : Nat} {w9 : Nat} {k9 : Nat} {r_6 : Int32} {mwn_9 : Int32} (hmp : mp ≤ mz) (hmz : mz ≤ 120) (hR : okR fr c9 w9 k9 k9) (c_2 : mk = 1) (h_6 : r_6 = (kindX mv)) (c_7 : r_6 = 0) (c_8 : ¬ (r_6 = 0)) (hF_9_0 : mwn_9 = 3) : sS ft_ mz ((mk, mv, mb, mp), m38 fr) = ((mk, mv, mb, mp), m38 fr) := by
  exact absurd c_7 c_8
theorem lf_X8_readSound_5 {mk : Int32} {mv : Int32} {mb : Int32} {mz : Nat} {mp : Nat} {ft_ : Nat → Int32} {fr : Nat → Int32} {c9 : Nat} {w9 : Nat} {k9 : Nat} {r_6 : Int32} {mwn_9 : Int32} (hmp : mp ≤ mz) (hmz : mz ≤ 120) (hR : okR fr c9 w9 k9 k9) (c_2 : mk = 1) (h_6 : r_6 = (kindX mv)) (c_7 : r_6 = 0) (c_8 : ¬ (r_6 = 0)) (hF_9_0 : mwn_9 = 3) : (¬ sGG ft_ mz ((mk, mv, mb, mp), m38 fr) → mwn_9 = sE ft_ mz ((mk, mv, mb, mp), m38 fr)) := by
  exact absurd c_7 c_8
theorem lf_X8_readSound_6 {mk : Int32} {mv : Int32} {mb : Int32} {mz : Nat} {mp : Nat} {ft_ : Nat → Int32} {fr : Nat → Int32} {c9 : Nat} {w9 : Nat} {k9 : Nat} {r_6 : Int32} {mwn_9 : Int32} (hmp : mp ≤ mz) (hmz : mz ≤ 120) (hR : okR fr c9 w9 k9 k9) (c_2 : mk = 1) (h_6 : r_6 = (kindX mv)) (c_7 : r_6 = 0) (c_8 : ¬ (r_6 = 0)) (hF_9_0 : mwn_9 = 3) : ¬ sGG ft_ mz ((mk, mv, mb, mp), m38 fr) := by
  exact absurd c_7 c_8
theorem lf_X8_readSound_7 {mk : Int32} {mv : Int32} {mb : Int32} {mz : Nat} {mp : Nat} {ft_ : Nat → Int32} {fr : Nat → Int32} {c9 : Nat} {w9 : Nat} {k9 : Nat} {r_6 : Int32} {mwn_10 : Int32} (hmp : mp ≤ mz) (hmz : mz ≤ 120) (hR : okR fr c9 w9 k9 k9) (c_2 : mk = 1) (h_6 : r_6 = (kindX mv)) (c_7 : r_6 = 0) (c_8 : r_6 = 0) (hF_10_0 : mwn_10 = 1) : sS ft_ mz ((mk, mv, mb, mp), m38 fr) = ((mk, mv, mb, mp), m38 fr) := by
  first
  | (have a := rsn (mb := mb) hR c_2 h_6 c_7 c_11 hF_12_1 hu_14 hu_17
     have b := sS_1 (s := ((mk, mv, mb, mp), m38 fr)) a.2.1 a.2.2.1 a.2.2.2 hF_12_1 e_19 hF_21_2 hF_21_3
     first
     | exact sS_n a.1 b.1 b.2.1 (fun q => f_21_0_0 (b.2.2.mp q))
     | exact sS_y a.1 b.1 b.2.1 (b.2.2.mpr f_21_1_0) a.2.2.2 hF_25_2 hF_25_3)
  | (have a3 : m38 fr 3 = nI w9 := (m38_at (by decide)).trans hR.2.2.1
     have a4 : m38 fr 4 = nI k9 := (m38_at (by decide)).trans hR.2.2.2.2.1
     have a0 : m38 fr 0 = nI c9 := (m38_at (by decide)).trans hR.1
     have b3 : (nI w9).toNatClampNeg = w9 := nI_clamp (Nat.lt_of_le_of_lt hR.2.2.2.1 (by decide))
     have b4 : (nI k9).toNatClampNeg = k9 := nI_clamp (Nat.lt_of_le_of_lt hR.2.2.2.2.2.1 (by decide))
     have d3 : nI w9 = 6 ↔ w9 = 6 := nI_eq (b := 6) (Nat.lt_of_le_of_lt hR.2.2.2.1 (by decide)) (by decide)
     have d4 : nI k9 = 6 ↔ k9 = 6 := nI_eq (b := 6) (Nat.lt_of_le_of_lt hR.2.2.2.2.2.1 (by decide)) (by decide)
     have s3 : nI w9 + 1 = nI (w9 + 1) := nI_add w9 1
     have s4 : nI k9 + 1 = nI (k9 + 1) := nI_add k9 1
     have u3 := m38_up (f := fr) (i := 3) (v := nI (w9 + 1)) (by decide)
     simp only [sS, sE, sGG, sG0, sG1, sUb, sRb, sRa, kdM, uT, kG, a0, a4, b4, d4, s4] at *
     grind [m38_up])
theorem lf_X8_readSound_8 {mk : Int32} {mv : Int32} {mb : Int32} {mz : Nat} {mp : Nat} {ft_ : Nat → Int32} {fr : Nat → Int32} {c9 : Nat} {w9 : Nat} {k9 : Nat} {r_6 : Int32} {mwn_10 : Int32} (hmp : mp ≤ mz) (hmz : mz ≤ 120) (hR : okR fr c9 w9 k9 k9) (c_2 : mk = 1) (h_6 : r_6 = (kindX mv)) (c_7 : r_6 = 0) (c_8 : r_6 = 0) (hF_10_0 : mwn_10 = 1) : (¬ sGG ft_ mz ((mk, mv, mb, mp), m38 fr) → mwn_10 = sE ft_ mz ((mk, mv, mb, mp), m38 fr)) := by
  first
  | (have a := rsn (mb := mb) hR c_2 h_6 c_7 c_11 hF_12_1 hu_14 hu_17
     have b := sS_1 (s := ((mk, mv, mb, mp), m38 fr)) a.2.1 a.2.2.1 a.2.2.2 hF_12_1 e_19 hF_21_2 hF_21_3
     first
     | exact sS_n a.1 b.1 b.2.1 (fun q => f_21_0_0 (b.2.2.mp q))
     | exact sS_y a.1 b.1 b.2.1 (b.2.2.mpr f_21_1_0) a.2.2.2 hF_25_2 hF_25_3)
  | (have a3 : m38 fr 3 = nI w9 := (m38_at (by decide)).trans hR.2.2.1
     have a4 : m38 fr 4 = nI k9 := (m38_at (by decide)).trans hR.2.2.2.2.1
     have a0 : m38 fr 0 = nI c9 := (m38_at (by decide)).trans hR.1
     have b3 : (nI w9).toNatClampNeg = w9 := nI_clamp (Nat.lt_of_le_of_lt hR.2.2.2.1 (by decide))
     have b4 : (nI k9).toNatClampNeg = k9 := nI_clamp (Nat.lt_of_le_of_lt hR.2.2.2.2.2.1 (by decide))
     have d3 : nI w9 = 6 ↔ w9 = 6 := nI_eq (b := 6) (Nat.lt_of_le_of_lt hR.2.2.2.1 (by decide)) (by decide)
     have d4 : nI k9 = 6 ↔ k9 = 6 := nI_eq (b := 6) (Nat.lt_of_le_of_lt hR.2.2.2.2.2.1 (by decide)) (by decide)
     have s3 : nI w9 + 1 = nI (w9 + 1) := nI_add w9 1
     have s4 : nI k9 + 1 = nI (k9 + 1) := nI_add k9 1
     have u3 := m38_up (f := fr) (i := 3) (v := nI (w9 + 1)) (by decide)
     simp only [sS, sE, sGG, sG0, sG1, sUb, sRb, sRa, kdM, uT, kG, a0, a4, b4, d4, s4] at *
     grind [m38_up])
theorem lf_X8_readSound_9 {mk : Int32} {mv : Int32} {mb : Int32} {mz : Nat} {mp : Nat} {ft_ : Nat → Int32} {fr : Nat → Int32} {c9 : Nat} {w9 : Nat} {k9 : Nat} {r_6 : Int32} {mwn_10 : Int32} (hmp : mp ≤ mz) (hmz : mz ≤ 120) (hR : okR fr c9 w9 k9 k9) (c_2 : mk = 1) (h_6 : r_6 = (kindX mv)) (c_7 : r_6 = 0) (c_8 : r_6 = 0) (hF_10_0 : mwn_10 = 1) : ¬ sGG ft_ mz ((mk, mv, mb, mp), m38 fr) := by
  first
  | (have a := rsn (mb := mb) hR c_2 h_6 c_7 c_11 hF_12_1 hu_14 hu_17
     have b := sS_1 (s := ((mk, mv, mb, mp), m38 fr)) a.2.1 a.2.2.1 a.2.2.2 hF_12_1 e_19 hF_21_2 hF_21_3
     first
     | exact sS_n a.1 b.1 b.2.1 (fun q => f_21_0_0 (b.2.2.mp q))
     | exact sS_y a.1 b.1 b.2.1 (b.2.2.mpr f_21_1_0) a.2.2.2 hF_25_2 hF_25_3)
  | (have a3 : m38 fr 3 = nI w9 := (m38_at (by decide)).trans hR.2.2.1
     have a4 : m38 fr 4 = nI k9 := (m38_at (by decide)).trans hR.2.2.2.2.1
     have a0 : m38 fr 0 = nI c9 := (m38_at (by decide)).trans hR.1
     have b3 : (nI w9).toNatClampNeg = w9 := nI_clamp (Nat.lt_of_le_of_lt hR.2.2.2.1 (by decide))
     have b4 : (nI k9).toNatClampNeg = k9 := nI_clamp (Nat.lt_of_le_of_lt hR.2.2.2.2.2.1 (by decide))
     have d3 : nI w9 = 6 ↔ w9 = 6 := nI_eq (b := 6) (Nat.lt_of_le_of_lt hR.2.2.2.1 (by decide)) (by decide)
     have d4 : nI k9 = 6 ↔ k9 = 6 := nI_eq (b := 6) (Nat.lt_of_le_of_lt hR.2.2.2.2.2.1 (by decide)) (by decide)
     have s3 : nI w9 + 1 = nI (w9 + 1) := nI_add w9 1
     have s4 : nI k9 + 1 = nI (k9 + 1) := nI_add k9 1
     have u3 := m38_up (f := fr) (i := 3) (v := nI (w9 + 1)) (by decide)
     simp only [sS, sE, sGG, sG0, sG1, sUb, sRb, sRa, kdM, uT, kG, a0, a4, b4, d4, s4] at *
     grind [m38_up])
theorem lf_X8_readSound_10 {mk : Int32} {mv : Int32} {mb : Int32} {mz : Nat} {mp : Nat} {ft_ : Nat → Int32} {fr : Nat → Int32} {c9 : Nat} {w9 : Nat} {k9 : Nat} {r_6 : Int32} {mkn_12 : Int32} {mvn_12 : Int32} {mbn_12 : Int32} {mpn_12 : Nat} {g_14 : Nat → Int32} {g_17 : Nat → Int32} {v_19 : Int32} {mkn_21 : Int32} {mvn_21 : Int32} {mbn_21 : Int32} {mpn_21 : Nat} {mwn_21 : Int32} {frn_21 : Nat → Int32} (hmp : mp ≤ mz) (hmz : mz ≤ 120) (hR : okR fr c9 w9 k9 k9) (c_2 : mk = 1) (h_6 : r_6 = (kindX mv)) (c_7 : ¬ (r_6 = 0)) (c_11 : ¬ (k9 = 6)) (hF_12_0 : mpn_12 ≤ mz) (hF_12_1 : nT ft_ mz mp = (mkn_12, mvn_12, mbn_12, mpn_12)) (hu_14 : g_14 = upd fr (14 + k9) r_6) (hu_17 : g_17 = upd g_14 4 (nI (k9 + 1))) (e_19 : v_19 = ((nI c9) - 1)) (hF_21_0 : mpn_21 ≤ mz) (hF_21_2 : nU ft_ mz 0 v_19 44 (mkn_12, mvn_12, mbn_12, mpn_12) = (mkn_21, mvn_21, mbn_21, mpn_21)) (hF_21_3 : m38 frn_21 = nR 0 v_19 (20 + k9) (mkn_12, mvn_12, mbn_12, mpn_12) (m38 g_17)) (hF_21_4 : (¬ nGG ft_ mz 0 v_19 44 (mkn_12, mvn_12, mbn_12, mpn_12) → mwn_21 = nE 0 v_19 (mkn_12, mvn_12, mbn_12, mpn_12))) (f_21_0_0 : ¬ nGG ft_ mz 0 v_19 44 (mkn_12, mvn_12, mbn_12, mpn_12)) : sS ft_ mz ((mk, mv, mb, mp), m38 fr) = ((mkn_21, mvn_21, mbn_21, mpn_21), m38 frn_21) := by
  first
  | (have a := rsn (mb := mb) hR c_2 h_6 c_7 c_11 hF_12_1 hu_14 hu_17
     have b := sS_1 (s := ((mk, mv, mb, mp), m38 fr)) a.2.1 a.2.2.1 a.2.2.2 hF_12_1 e_19 hF_21_2 hF_21_3
     first
     | exact sS_n a.1 b.1 b.2.1 (fun q => f_21_0_0 (b.2.2.mp q))
     | exact sS_y a.1 b.1 b.2.1 (b.2.2.mpr f_21_1_0) a.2.2.2 hF_25_2 hF_25_3)
  | (have a3 : m38 fr 3 = nI w9 := (m38_at (by decide)).trans hR.2.2.1
     have a4 : m38 fr 4 = nI k9 := (m38_at (by decide)).trans hR.2.2.2.2.1
     have a0 : m38 fr 0 = nI c9 := (m38_at (by decide)).trans hR.1
     have b3 : (nI w9).toNatClampNeg = w9 := nI_clamp (Nat.lt_of_le_of_lt hR.2.2.2.1 (by decide))
     have b4 : (nI k9).toNatClampNeg = k9 := nI_clamp (Nat.lt_of_le_of_lt hR.2.2.2.2.2.1 (by decide))
     have d3 : nI w9 = 6 ↔ w9 = 6 := nI_eq (b := 6) (Nat.lt_of_le_of_lt hR.2.2.2.1 (by decide)) (by decide)
     have d4 : nI k9 = 6 ↔ k9 = 6 := nI_eq (b := 6) (Nat.lt_of_le_of_lt hR.2.2.2.2.2.1 (by decide)) (by decide)
     have s3 : nI w9 + 1 = nI (w9 + 1) := nI_add w9 1
     have s4 : nI k9 + 1 = nI (k9 + 1) := nI_add k9 1
     have u3 := m38_up (f := fr) (i := 3) (v := nI (w9 + 1)) (by decide)
     simp only [sS, sE, sGG, sG0, sG1, sUb, sRb, sRa, kdM, uT, kG, a0, a4, b4, d4, s4] at *
     grind [m38_up])
theorem lf_X8_readSound_11 {mk : Int32} {mv : Int32} {mb : Int32} {mz : Nat} {mp : Nat} {ft_ : Nat → Int32} {fr : Nat → Int32} {c9 : Nat} {w9 : Nat} {k9 : Nat} {r_6 : Int32} {mkn_12 : Int32} {mvn_12 : Int32} {mbn_12 : Int32} {mpn_12 : Nat} {g_14 : Nat → Int32} {g_17 : Nat → Int32} {v_19 : Int32} {mkn_21 : Int32} {mvn_21 : Int32} {mbn_21 : Int32} {mpn_21 : Nat} {mwn_21 : Int32} {frn_21 : Nat → Int32} (hmp : mp ≤ mz) (hmz : mz ≤ 120) (hR : okR fr c9 w9 k9 k9) (c_2 : mk = 1) (h_6 : r_6 = (kindX mv)) (c_7 : ¬ (r_6 = 0)) (c_11 : ¬ (k9 = 6)) (hF_12_0 : mpn_12 ≤ mz) (hF_12_1 : nT ft_ mz mp = (mkn_12, mvn_12, mbn_12, mpn_12)) (hu_14 : g_14 = upd fr (14 + k9) r_6) (hu_17 : g_17 = upd g_14 4 (nI (k9 + 1))) (e_19 : v_19 = ((nI c9) - 1)) (hF_21_0 : mpn_21 ≤ mz) (hF_21_2 : nU ft_ mz 0 v_19 44 (mkn_12, mvn_12, mbn_12, mpn_12) = (mkn_21, mvn_21, mbn_21, mpn_21)) (hF_21_3 : m38 frn_21 = nR 0 v_19 (20 + k9) (mkn_12, mvn_12, mbn_12, mpn_12) (m38 g_17)) (hF_21_4 : (¬ nGG ft_ mz 0 v_19 44 (mkn_12, mvn_12, mbn_12, mpn_12) → mwn_21 = nE 0 v_19 (mkn_12, mvn_12, mbn_12, mpn_12))) (f_21_0_0 : ¬ nGG ft_ mz 0 v_19 44 (mkn_12, mvn_12, mbn_12, mpn_12)) : (¬ sGG ft_ mz ((mk, mv, mb, mp), m38 fr) → mwn_21 = sE ft_ mz ((mk, mv, mb, mp), m38 fr)) := by
  first
  | (have a := rsn (mb := mb) hR c_2 h_6 c_7 c_11 hF_12_1 hu_14 hu_17
     have b := sS_1 (s := ((mk, mv, mb, mp), m38 fr)) a.2.1 a.2.2.1 a.2.2.2 hF_12_1 e_19 hF_21_2 hF_21_3
     first
     | exact sS_n a.1 b.1 b.2.1 (fun q => f_21_0_0 (b.2.2.mp q))
     | exact sS_y a.1 b.1 b.2.1 (b.2.2.mpr f_21_1_0) a.2.2.2 hF_25_2 hF_25_3)
  | (have a3 : m38 fr 3 = nI w9 := (m38_at (by decide)).trans hR.2.2.1
     have a4 : m38 fr 4 = nI k9 := (m38_at (by decide)).trans hR.2.2.2.2.1
     have a0 : m38 fr 0 = nI c9 := (m38_at (by decide)).trans hR.1
     have b3 : (nI w9).toNatClampNeg = w9 := nI_clamp (Nat.lt_of_le_of_lt hR.2.2.2.1 (by decide))
     have b4 : (nI k9).toNatClampNeg = k9 := nI_clamp (Nat.lt_of_le_of_lt hR.2.2.2.2.2.1 (by decide))
     have d3 : nI w9 = 6 ↔ w9 = 6 := nI_eq (b := 6) (Nat.lt_of_le_of_lt hR.2.2.2.1 (by decide)) (by decide)
     have d4 : nI k9 = 6 ↔ k9 = 6 := nI_eq (b := 6) (Nat.lt_of_le_of_lt hR.2.2.2.2.2.1 (by decide)) (by decide)
     have s3 : nI w9 + 1 = nI (w9 + 1) := nI_add w9 1
     have s4 : nI k9 + 1 = nI (k9 + 1) := nI_add k9 1
     have u3 := m38_up (f := fr) (i := 3) (v := nI (w9 + 1)) (by decide)
     simp only [sS, sE, sGG, sG0, sG1, sUb, sRb, sRa, kdM, uT, kG, a0, a4, b4, d4, s4] at *
     grind [m38_up])
theorem lf_X8_readSound_12 {mk : Int32} {mv : Int32} {mb : Int32} {mz : Nat} {mp : Nat} {ft_ : Nat → Int32} {fr : Nat → Int32} {c9 : Nat} {w9 : Nat} {k9 : Nat} {r_6 : Int32} {mkn_12 : Int32} {mvn_12 : Int32} {mbn_12 : Int32} {mpn_12 : Nat} {g_14 : Nat → Int32} {g_17 : Nat → Int32} {v_19 : Int32} {mkn_21 : Int32} {mvn_21 : Int32} {mbn_21 : Int32} {mpn_21 : Nat} {mwn_21 : Int32} {frn_21 : Nat → Int32} (hmp : mp ≤ mz) (hmz : mz ≤ 120) (hR : okR fr c9 w9 k9 k9) (c_2 : mk = 1) (h_6 : r_6 = (kindX mv)) (c_7 : ¬ (r_6 = 0)) (c_11 : ¬ (k9 = 6)) (hF_12_0 : mpn_12 ≤ mz) (hF_12_1 : nT ft_ mz mp = (mkn_12, mvn_12, mbn_12, mpn_12)) (hu_14 : g_14 = upd fr (14 + k9) r_6) (hu_17 : g_17 = upd g_14 4 (nI (k9 + 1))) (e_19 : v_19 = ((nI c9) - 1)) (hF_21_0 : mpn_21 ≤ mz) (hF_21_2 : nU ft_ mz 0 v_19 44 (mkn_12, mvn_12, mbn_12, mpn_12) = (mkn_21, mvn_21, mbn_21, mpn_21)) (hF_21_3 : m38 frn_21 = nR 0 v_19 (20 + k9) (mkn_12, mvn_12, mbn_12, mpn_12) (m38 g_17)) (hF_21_4 : (¬ nGG ft_ mz 0 v_19 44 (mkn_12, mvn_12, mbn_12, mpn_12) → mwn_21 = nE 0 v_19 (mkn_12, mvn_12, mbn_12, mpn_12))) (f_21_0_0 : ¬ nGG ft_ mz 0 v_19 44 (mkn_12, mvn_12, mbn_12, mpn_12)) : ¬ sGG ft_ mz ((mk, mv, mb, mp), m38 fr) := by
  first
  | (have a := rsn (mb := mb) hR c_2 h_6 c_7 c_11 hF_12_1 hu_14 hu_17
     have b := sS_1 (s := ((mk, mv, mb, mp), m38 fr)) a.2.1 a.2.2.1 a.2.2.2 hF_12_1 e_19 hF_21_2 hF_21_3
     first
     | exact sS_n a.1 b.1 b.2.1 (fun q => f_21_0_0 (b.2.2.mp q))
     | exact sS_y a.1 b.1 b.2.1 (b.2.2.mpr f_21_1_0) a.2.2.2 hF_25_2 hF_25_3)
  | (have a3 : m38 fr 3 = nI w9 := (m38_at (by decide)).trans hR.2.2.1
     have a4 : m38 fr 4 = nI k9 := (m38_at (by decide)).trans hR.2.2.2.2.1
     have a0 : m38 fr 0 = nI c9 := (m38_at (by decide)).trans hR.1
     have b3 : (nI w9).toNatClampNeg = w9 := nI_clamp (Nat.lt_of_le_of_lt hR.2.2.2.1 (by decide))
     have b4 : (nI k9).toNatClampNeg = k9 := nI_clamp (Nat.lt_of_le_of_lt hR.2.2.2.2.2.1 (by decide))
     have d3 : nI w9 = 6 ↔ w9 = 6 := nI_eq (b := 6) (Nat.lt_of_le_of_lt hR.2.2.2.1 (by decide)) (by decide)
     have d4 : nI k9 = 6 ↔ k9 = 6 := nI_eq (b := 6) (Nat.lt_of_le_of_lt hR.2.2.2.2.2.1 (by decide)) (by decide)
     have s3 : nI w9 + 1 = nI (w9 + 1) := nI_add w9 1
     have s4 : nI k9 + 1 = nI (k9 + 1) := nI_add k9 1
     have u3 := m38_up (f := fr) (i := 3) (v := nI (w9 + 1)) (by decide)
     simp only [sS, sE, sGG, sG0, sG1, sUb, sRb, sRa, kdM, uT, kG, a0, a4, b4, d4, s4] at *
     grind [m38_up])
theorem lf_X8_readSound_13 {mk : Int32} {mv : Int32} {mb : Int32} {mz : Nat} {mp : Nat} {ft_ : Nat → Int32} {fr : Nat → Int32} {c9 : Nat} {w9 : Nat} {k9 : Nat} {r_6 : Int32} {mkn_12 : Int32} {mvn_12 : Int32} {mbn_12 : Int32} {mpn_12 : Nat} {g_14 : Nat → Int32} {g_17 : Nat → Int32} {v_19 : Int32} {mkn_21 : Int32} {mvn_21 : Int32} {mbn_21 : Int32} {mpn_21 : Nat} {mwn_21 : Int32} {frn_21 : Nat → Int32} {mkn_25 : Int32} {mvn_25 : Int32} {mbn_25 : Int32} {mpn_25 : Nat} {mwn_25 : Int32} {frn_25 : Nat → Int32} (hmp : mp ≤ mz) (hmz : mz ≤ 120) (hR : okR fr c9 w9 k9 k9) (c_2 : mk = 1) (h_6 : r_6 = (kindX mv)) (c_7 : ¬ (r_6 = 0)) (c_11 : ¬ (k9 = 6)) (hF_12_0 : mpn_12 ≤ mz) (hF_12_1 : nT ft_ mz mp = (mkn_12, mvn_12, mbn_12, mpn_12)) (hu_14 : g_14 = upd fr (14 + k9) r_6) (hu_17 : g_17 = upd g_14 4 (nI (k9 + 1))) (e_19 : v_19 = ((nI c9) - 1)) (hF_21_0 : mpn_21 ≤ mz) (hF_21_2 : nU ft_ mz 0 v_19 44 (mkn_12, mvn_12, mbn_12, mpn_12) = (mkn_21, mvn_21, mbn_21, mpn_21)) (hF_21_3 : m38 frn_21 = nR 0 v_19 (20 + k9) (mkn_12, mvn_12, mbn_12, mpn_12) (m38 g_17)) (hF_21_4 : (¬ nGG ft_ mz 0 v_19 44 (mkn_12, mvn_12, mbn_12, mpn_12) → mwn_21 = nE 0 v_19 (mkn_12, mvn_12, mbn_12, mpn_12))) (f_21_1_0 : nGG ft_ mz 0 v_19 44 (mkn_12, mvn_12, mbn_12, mpn_12)) (hR_21 : okR frn_21 c9 w9 (k9 + 1) k9) (hF_25_0 : mpn_25 ≤ mz) (hF_25_2 : nU ft_ mz 1 20 59 (mkn_21, mvn_21, mbn_21, mpn_21) = (mkn_25, mvn_25, mbn_25, mpn_25)) (hF_25_3 : m38 frn_25 = nR 1 20 (32 + k9) (mkn_21, mvn_21, mbn_21, mpn_21) (m38 frn_21)) (hF_25_4 : (¬ nGG ft_ mz 1 20 59 (mkn_21, mvn_21, mbn_21, mpn_21) → mwn_25 = nE 1 20 (mkn_21, mvn_21, mbn_21, mpn_21))) (f_25_0_0 : ¬ nGG ft_ mz 1 20 59 (mkn_21, mvn_21, mbn_21, mpn_21)) : sS ft_ mz ((mk, mv, mb, mp), m38 fr) = ((mkn_25, mvn_25, mbn_25, mpn_25), m38 frn_25) := by
  first
  | (have a := rsn (mb := mb) hR c_2 h_6 c_7 c_11 hF_12_1 hu_14 hu_17
     have b := sS_1 (s := ((mk, mv, mb, mp), m38 fr)) a.2.1 a.2.2.1 a.2.2.2 hF_12_1 e_19 hF_21_2 hF_21_3
     first
     | exact sS_n a.1 b.1 b.2.1 (fun q => f_21_0_0 (b.2.2.mp q))
     | exact sS_y a.1 b.1 b.2.1 (b.2.2.mpr f_21_1_0) a.2.2.2 hF_25_2 hF_25_3)
  | (have a3 : m38 fr 3 = nI w9 := (m38_at (by decide)).trans hR.2.2.1
     have a4 : m38 fr 4 = nI k9 := (m38_at (by decide)).trans hR.2.2.2.2.1
     have a0 : m38 fr 0 = nI c9 := (m38_at (by decide)).trans hR.1
     have b3 : (nI w9).toNatClampNeg = w9 := nI_clamp (Nat.lt_of_le_of_lt hR.2.2.2.1 (by decide))
     have b4 : (nI k9).toNatClampNeg = k9 := nI_clamp (Nat.lt_of_le_of_lt hR.2.2.2.2.2.1 (by decide))
     have d3 : nI w9 = 6 ↔ w9 = 6 := nI_eq (b := 6) (Nat.lt_of_le_of_lt hR.2.2.2.1 (by decide)) (by decide)
     have d4 : nI k9 = 6 ↔ k9 = 6 := nI_eq (b := 6) (Nat.lt_of_le_of_lt hR.2.2.2.2.2.1 (by decide)) (by decide)
     have s3 : nI w9 + 1 = nI (w9 + 1) := nI_add w9 1
     have s4 : nI k9 + 1 = nI (k9 + 1) := nI_add k9 1
     have u3 := m38_up (f := fr) (i := 3) (v := nI (w9 + 1)) (by decide)
     simp only [sS, sE, sGG, sG0, sG1, sUb, sRb, sRa, kdM, uT, kG, a0, a4, b4, d4, s4] at *
     grind [m38_up])
theorem lf_X8_readSound_14 {mk : Int32} {mv : Int32} {mb : Int32} {mz : Nat} {mp : Nat} {ft_ : Nat → Int32} {fr : Nat → Int32} {c9 : Nat} {w9 : Nat} {k9 : Nat} {r_6 : Int32} {mkn_12 : Int32} {mvn_12 : Int32} {mbn_12 : Int32} {mpn_12 : Nat} {g_14 : Nat → Int32} {g_17 : Nat → Int32} {v_19 : Int32} {mkn_21 : Int32} {mvn_21 : Int32} {mbn_21 : Int32} {mpn_21 : Nat} {mwn_21 : Int32} {frn_21 : Nat → Int32} {mkn_25 : Int32} {mvn_25 : Int32} {mbn_25 : Int32} {mpn_25 : Nat} {mwn_25 : Int32} {frn_25 : Nat → Int32} (hmp : mp ≤ mz) (hmz : mz ≤ 120) (hR : okR fr c9 w9 k9 k9) (c_2 : mk = 1) (h_6 : r_6 = (kindX mv)) (c_7 : ¬ (r_6 = 0)) (c_11 : ¬ (k9 = 6)) (hF_12_0 : mpn_12 ≤ mz) (hF_12_1 : nT ft_ mz mp = (mkn_12, mvn_12, mbn_12, mpn_12)) (hu_14 : g_14 = upd fr (14 + k9) r_6) (hu_17 : g_17 = upd g_14 4 (nI (k9 + 1))) (e_19 : v_19 = ((nI c9) - 1)) (hF_21_0 : mpn_21 ≤ mz) (hF_21_2 : nU ft_ mz 0 v_19 44 (mkn_12, mvn_12, mbn_12, mpn_12) = (mkn_21, mvn_21, mbn_21, mpn_21)) (hF_21_3 : m38 frn_21 = nR 0 v_19 (20 + k9) (mkn_12, mvn_12, mbn_12, mpn_12) (m38 g_17)) (hF_21_4 : (¬ nGG ft_ mz 0 v_19 44 (mkn_12, mvn_12, mbn_12, mpn_12) → mwn_21 = nE 0 v_19 (mkn_12, mvn_12, mbn_12, mpn_12))) (f_21_1_0 : nGG ft_ mz 0 v_19 44 (mkn_12, mvn_12, mbn_12, mpn_12)) (hR_21 : okR frn_21 c9 w9 (k9 + 1) k9) (hF_25_0 : mpn_25 ≤ mz) (hF_25_2 : nU ft_ mz 1 20 59 (mkn_21, mvn_21, mbn_21, mpn_21) = (mkn_25, mvn_25, mbn_25, mpn_25)) (hF_25_3 : m38 frn_25 = nR 1 20 (32 + k9) (mkn_21, mvn_21, mbn_21, mpn_21) (m38 frn_21)) (hF_25_4 : (¬ nGG ft_ mz 1 20 59 (mkn_21, mvn_21, mbn_21, mpn_21) → mwn_25 = nE 1 20 (mkn_21, mvn_21, mbn_21, mpn_21))) (f_25_0_0 : ¬ nGG ft_ mz 1 20 59 (mkn_21, mvn_21, mbn_21, mpn_21)) : (¬ sGG ft_ mz ((mk, mv, mb, mp), m38 fr) → mwn_25 = sE ft_ mz ((mk, mv, mb, mp), m38 fr)) := by
  first
  | (have a := rsn (mb := mb) hR c_2 h_6 c_7 c_11 hF_12_1 hu_14 hu_17
     have b := sS_1 (s := ((mk, mv, mb, mp), m38 fr)) a.2.1 a.2.2.1 a.2.2.2 hF_12_1 e_19 hF_21_2 hF_21_3
     first
     | exact sS_n a.1 b.1 b.2.1 (fun q => f_21_0_0 (b.2.2.mp q))
     | exact sS_y a.1 b.1 b.2.1 (b.2.2.mpr f_21_1_0) a.2.2.2 hF_25_2 hF_25_3)
  | (have a3 : m38 fr 3 = nI w9 := (m38_at (by decide)).trans hR.2.2.1
     have a4 : m38 fr 4 = nI k9 := (m38_at (by decide)).trans hR.2.2.2.2.1
     have a0 : m38 fr 0 = nI c9 := (m38_at (by decide)).trans hR.1
     have b3 : (nI w9).toNatClampNeg = w9 := nI_clamp (Nat.lt_of_le_of_lt hR.2.2.2.1 (by decide))
     have b4 : (nI k9).toNatClampNeg = k9 := nI_clamp (Nat.lt_of_le_of_lt hR.2.2.2.2.2.1 (by decide))
     have d3 : nI w9 = 6 ↔ w9 = 6 := nI_eq (b := 6) (Nat.lt_of_le_of_lt hR.2.2.2.1 (by decide)) (by decide)
     have d4 : nI k9 = 6 ↔ k9 = 6 := nI_eq (b := 6) (Nat.lt_of_le_of_lt hR.2.2.2.2.2.1 (by decide)) (by decide)
     have s3 : nI w9 + 1 = nI (w9 + 1) := nI_add w9 1
     have s4 : nI k9 + 1 = nI (k9 + 1) := nI_add k9 1
     have u3 := m38_up (f := fr) (i := 3) (v := nI (w9 + 1)) (by decide)
     simp only [sS, sE, sGG, sG0, sG1, sUb, sRb, sRa, kdM, uT, kG, a0, a4, b4, d4, s4] at *
     grind [m38_up])
theorem lf_X8_readSound_15 {mk : Int32} {mv : Int32} {mb : Int32} {mz : Nat} {mp : Nat} {ft_ : Nat → Int32} {fr : Nat → Int32} {c9 : Nat} {w9 : Nat} {k9 : Nat} {r_6 : Int32} {mkn_12 : Int32} {mvn_12 : Int32} {mbn_12 : Int32} {mpn_12 : Nat} {g_14 : Nat → Int32} {g_17 : Nat → Int32} {v_19 : Int32} {mkn_21 : Int32} {mvn_21 : Int32} {mbn_21 : Int32} {mpn_21 : Nat} {mwn_21 : Int32} {frn_21 : Nat → Int32} {mkn_25 : Int32} {mvn_25 : Int32} {mbn_25 : Int32} {mpn_25 : Nat} {mwn_25 : Int32} {frn_25 : Nat → Int32} (hmp : mp ≤ mz) (hmz : mz ≤ 120) (hR : okR fr c9 w9 k9 k9) (c_2 : mk = 1) (h_6 : r_6 = (kindX mv)) (c_7 : ¬ (r_6 = 0)) (c_11 : ¬ (k9 = 6)) (hF_12_0 : mpn_12 ≤ mz) (hF_12_1 : nT ft_ mz mp = (mkn_12, mvn_12, mbn_12, mpn_12)) (hu_14 : g_14 = upd fr (14 + k9) r_6) (hu_17 : g_17 = upd g_14 4 (nI (k9 + 1))) (e_19 : v_19 = ((nI c9) - 1)) (hF_21_0 : mpn_21 ≤ mz) (hF_21_2 : nU ft_ mz 0 v_19 44 (mkn_12, mvn_12, mbn_12, mpn_12) = (mkn_21, mvn_21, mbn_21, mpn_21)) (hF_21_3 : m38 frn_21 = nR 0 v_19 (20 + k9) (mkn_12, mvn_12, mbn_12, mpn_12) (m38 g_17)) (hF_21_4 : (¬ nGG ft_ mz 0 v_19 44 (mkn_12, mvn_12, mbn_12, mpn_12) → mwn_21 = nE 0 v_19 (mkn_12, mvn_12, mbn_12, mpn_12))) (f_21_1_0 : nGG ft_ mz 0 v_19 44 (mkn_12, mvn_12, mbn_12, mpn_12)) (hR_21 : okR frn_21 c9 w9 (k9 + 1) k9) (hF_25_0 : mpn_25 ≤ mz) (hF_25_2 : nU ft_ mz 1 20 59 (mkn_21, mvn_21, mbn_21, mpn_21) = (mkn_25, mvn_25, mbn_25, mpn_25)) (hF_25_3 : m38 frn_25 = nR 1 20 (32 + k9) (mkn_21, mvn_21, mbn_21, mpn_21) (m38 frn_21)) (hF_25_4 : (¬ nGG ft_ mz 1 20 59 (mkn_21, mvn_21, mbn_21, mpn_21) → mwn_25 = nE 1 20 (mkn_21, mvn_21, mbn_21, mpn_21))) (f_25_0_0 : ¬ nGG ft_ mz 1 20 59 (mkn_21, mvn_21, mbn_21, mpn_21)) : ¬ sGG ft_ mz ((mk, mv, mb, mp), m38 fr) := by
  first
  | (have a := rsn (mb := mb) hR c_2 h_6 c_7 c_11 hF_12_1 hu_14 hu_17
     have b := sS_1 (s := ((mk, mv, mb, mp), m38 fr)) a.2.1 a.2.2.1 a.2.2.2 hF_12_1 e_19 hF_21_2 hF_21_3
     first
     | exact sS_n a.1 b.1 b.2.1 (fun q => f_21_0_0 (b.2.2.mp q))
     | exact sS_y a.1 b.1 b.2.1 (b.2.2.mpr f_21_1_0) a.2.2.2 hF_25_2 hF_25_3)
  | (have a3 : m38 fr 3 = nI w9 := (m38_at (by decide)).trans hR.2.2.1
     have a4 : m38 fr 4 = nI k9 := (m38_at (by decide)).trans hR.2.2.2.2.1
     have a0 : m38 fr 0 = nI c9 := (m38_at (by decide)).trans hR.1
     have b3 : (nI w9).toNatClampNeg = w9 := nI_clamp (Nat.lt_of_le_of_lt hR.2.2.2.1 (by decide))
     have b4 : (nI k9).toNatClampNeg = k9 := nI_clamp (Nat.lt_of_le_of_lt hR.2.2.2.2.2.1 (by decide))
     have d3 : nI w9 = 6 ↔ w9 = 6 := nI_eq (b := 6) (Nat.lt_of_le_of_lt hR.2.2.2.1 (by decide)) (by decide)
     have d4 : nI k9 = 6 ↔ k9 = 6 := nI_eq (b := 6) (Nat.lt_of_le_of_lt hR.2.2.2.2.2.1 (by decide)) (by decide)
     have s3 : nI w9 + 1 = nI (w9 + 1) := nI_add w9 1
     have s4 : nI k9 + 1 = nI (k9 + 1) := nI_add k9 1
     have u3 := m38_up (f := fr) (i := 3) (v := nI (w9 + 1)) (by decide)
     simp only [sS, sE, sGG, sG0, sG1, sUb, sRb, sRa, kdM, uT, kG, a0, a4, b4, d4, s4] at *
     grind [m38_up])
theorem lf_X8_readSound_16 {mk : Int32} {mv : Int32} {mb : Int32} {mz : Nat} {mp : Nat} {ft_ : Nat → Int32} {fr : Nat → Int32} {c9 : Nat} {w9 : Nat} {k9 : Nat} {r_6 : Int32} {mkn_12 : Int32} {mvn_12 : Int32} {mbn_12 : Int32} {mpn_12 : Nat} {g_14 : Nat → Int32} {g_17 : Nat → Int32} {v_19 : Int32} {mkn_21 : Int32} {mvn_21 : Int32} {mbn_21 : Int32} {mpn_21 : Nat} {mwn_21 : Int32} {frn_21 : Nat → Int32} {mkn_25 : Int32} {mvn_25 : Int32} {mbn_25 : Int32} {mpn_25 : Nat} {mwn_25 : Int32} {frn_25 : Nat → Int32} (hmp : mp ≤ mz) (hmz : mz ≤ 120) (hR : okR fr c9 w9 k9 k9) (c_2 : mk = 1) (h_6 : r_6 = (kindX mv)) (c_7 : ¬ (r_6 = 0)) (c_11 : ¬ (k9 = 6)) (hF_12_0 : mpn_12 ≤ mz) (hF_12_1 : nT ft_ mz mp = (mkn_12, mvn_12, mbn_12, mpn_12)) (hu_14 : g_14 = upd fr (14 + k9) r_6) (hu_17 : g_17 = upd g_14 4 (nI (k9 + 1))) (e_19 : v_19 = ((nI c9) - 1)) (hF_21_0 : mpn_21 ≤ mz) (hF_21_2 : nU ft_ mz 0 v_19 44 (mkn_12, mvn_12, mbn_12, mpn_12) = (mkn_21, mvn_21, mbn_21, mpn_21)) (hF_21_3 : m38 frn_21 = nR 0 v_19 (20 + k9) (mkn_12, mvn_12, mbn_12, mpn_12) (m38 g_17)) (hF_21_4 : (¬ nGG ft_ mz 0 v_19 44 (mkn_12, mvn_12, mbn_12, mpn_12) → mwn_21 = nE 0 v_19 (mkn_12, mvn_12, mbn_12, mpn_12))) (f_21_1_0 : nGG ft_ mz 0 v_19 44 (mkn_12, mvn_12, mbn_12, mpn_12)) (hR_21 : okR frn_21 c9 w9 (k9 + 1) k9) (hF_25_0 : mpn_25 ≤ mz) (hF_25_2 : nU ft_ mz 1 20 59 (mkn_21, mvn_21, mbn_21, mpn_21) = (mkn_25, mvn_25, mbn_25, mpn_25)) (hF_25_3 : m38 frn_25 = nR 1 20 (32 + k9) (mkn_21, mvn_21, mbn_21, mpn_21) (m38 frn_21)) (hF_25_4 : (¬ nGG ft_ mz 1 20 59 (mkn_21, mvn_21, mbn_21, mpn_21) → mwn_25 = nE 1 20 (mkn_21, mvn_21, mbn_21, mpn_21))) (f_25_1_0 : nGG ft_ mz 1 20 59 (mkn_21, mvn_21, mbn_21, mpn_21)) (hR_25 : okR frn_25 c9 w9 (k9 + 1) (k9 + 1)) : sS ft_ mz ((mk, mv, mb, mp), m38 fr) = ((mkn_25, mvn_25, mbn_25, mpn_25), m38 frn_25) := by
  first
  | (have a := rsn (mb := mb) hR c_2 h_6 c_7 c_11 hF_12_1 hu_14 hu_17
     have b := sS_1 (s := ((mk, mv, mb, mp), m38 fr)) a.2.1 a.2.2.1 a.2.2.2 hF_12_1 e_19 hF_21_2 hF_21_3
     first
     | exact sS_n a.1 b.1 b.2.1 (fun q => f_21_0_0 (b.2.2.mp q))
     | exact sS_y a.1 b.1 b.2.1 (b.2.2.mpr f_21_1_0) a.2.2.2 hF_25_2 hF_25_3)
  | (have a3 : m38 fr 3 = nI w9 := (m38_at (by decide)).trans hR.2.2.1
     have a4 : m38 fr 4 = nI k9 := (m38_at (by decide)).trans hR.2.2.2.2.1
     have a0 : m38 fr 0 = nI c9 := (m38_at (by decide)).trans hR.1
     have b3 : (nI w9).toNatClampNeg = w9 := nI_clamp (Nat.lt_of_le_of_lt hR.2.2.2.1 (by decide))
     have b4 : (nI k9).toNatClampNeg = k9 := nI_clamp (Nat.lt_of_le_of_lt hR.2.2.2.2.2.1 (by decide))
     have d3 : nI w9 = 6 ↔ w9 = 6 := nI_eq (b := 6) (Nat.lt_of_le_of_lt hR.2.2.2.1 (by decide)) (by decide)
     have d4 : nI k9 = 6 ↔ k9 = 6 := nI_eq (b := 6) (Nat.lt_of_le_of_lt hR.2.2.2.2.2.1 (by decide)) (by decide)
     have s3 : nI w9 + 1 = nI (w9 + 1) := nI_add w9 1
     have s4 : nI k9 + 1 = nI (k9 + 1) := nI_add k9 1
     have u3 := m38_up (f := fr) (i := 3) (v := nI (w9 + 1)) (by decide)
     simp only [sS, sE, sGG, sG0, sG1, sUb, sRb, sRa, kdM, uT, kG, a0, a4, b4, d4, s4] at *
     grind [m38_up])
theorem lf_X8_readSound_17 {mk : Int32} {mv : Int32} {mb : Int32} {mz : Nat} {mp : Nat} {ft_ : Nat → Int32} {fr : Nat → Int32} {c9 : Nat} {w9 : Nat} {k9 : Nat} {r_6 : Int32} {mkn_12 : Int32} {mvn_12 : Int32} {mbn_12 : Int32} {mpn_12 : Nat} {g_14 : Nat → Int32} {g_17 : Nat → Int32} {v_19 : Int32} {mkn_21 : Int32} {mvn_21 : Int32} {mbn_21 : Int32} {mpn_21 : Nat} {mwn_21 : Int32} {frn_21 : Nat → Int32} {mkn_25 : Int32} {mvn_25 : Int32} {mbn_25 : Int32} {mpn_25 : Nat} {mwn_25 : Int32} {frn_25 : Nat → Int32} (hmp : mp ≤ mz) (hmz : mz ≤ 120) (hR : okR fr c9 w9 k9 k9) (c_2 : mk = 1) (h_6 : r_6 = (kindX mv)) (c_7 : ¬ (r_6 = 0)) (c_11 : ¬ (k9 = 6)) (hF_12_0 : mpn_12 ≤ mz) (hF_12_1 : nT ft_ mz mp = (mkn_12, mvn_12, mbn_12, mpn_12)) (hu_14 : g_14 = upd fr (14 + k9) r_6) (hu_17 : g_17 = upd g_14 4 (nI (k9 + 1))) (e_19 : v_19 = ((nI c9) - 1)) (hF_21_0 : mpn_21 ≤ mz) (hF_21_2 : nU ft_ mz 0 v_19 44 (mkn_12, mvn_12, mbn_12, mpn_12) = (mkn_21, mvn_21, mbn_21, mpn_21)) (hF_21_3 : m38 frn_21 = nR 0 v_19 (20 + k9) (mkn_12, mvn_12, mbn_12, mpn_12) (m38 g_17)) (hF_21_4 : (¬ nGG ft_ mz 0 v_19 44 (mkn_12, mvn_12, mbn_12, mpn_12) → mwn_21 = nE 0 v_19 (mkn_12, mvn_12, mbn_12, mpn_12))) (f_21_1_0 : nGG ft_ mz 0 v_19 44 (mkn_12, mvn_12, mbn_12, mpn_12)) (hR_21 : okR frn_21 c9 w9 (k9 + 1) k9) (hF_25_0 : mpn_25 ≤ mz) (hF_25_2 : nU ft_ mz 1 20 59 (mkn_21, mvn_21, mbn_21, mpn_21) = (mkn_25, mvn_25, mbn_25, mpn_25)) (hF_25_3 : m38 frn_25 = nR 1 20 (32 + k9) (mkn_21, mvn_21, mbn_21, mpn_21) (m38 frn_21)) (hF_25_4 : (¬ nGG ft_ mz 1 20 59 (mkn_21, mvn_21, mbn_21, mpn_21) → mwn_25 = nE 1 20 (mkn_21, mvn_21, mbn_21, mpn_21))) (f_25_1_0 : nGG ft_ mz 1 20 59 (mkn_21, mvn_21, mbn_21, mpn_21)) (hR_25 : okR frn_25 c9 w9 (k9 + 1) (k9 + 1)) : (¬ sGG ft_ mz ((mk, mv, mb, mp), m38 fr) → mwn_25 = sE ft_ mz ((mk, mv, mb, mp), m38 fr)) := by
  first
  | (have a := rsn (mb := mb) hR c_2 h_6 c_7 c_11 hF_12_1 hu_14 hu_17
     have b := sS_1 (s := ((mk, mv, mb, mp), m38 fr)) a.2.1 a.2.2.1 a.2.2.2 hF_12_1 e_19 hF_21_2 hF_21_3
     first
     | exact sS_n a.1 b.1 b.2.1 (fun q => f_21_0_0 (b.2.2.mp q))
     | exact sS_y a.1 b.1 b.2.1 (b.2.2.mpr f_21_1_0) a.2.2.2 hF_25_2 hF_25_3)
  | (have a3 : m38 fr 3 = nI w9 := (m38_at (by decide)).trans hR.2.2.1
     have a4 : m38 fr 4 = nI k9 := (m38_at (by decide)).trans hR.2.2.2.2.1
     have a0 : m38 fr 0 = nI c9 := (m38_at (by decide)).trans hR.1
     have b3 : (nI w9).toNatClampNeg = w9 := nI_clamp (Nat.lt_of_le_of_lt hR.2.2.2.1 (by decide))
     have b4 : (nI k9).toNatClampNeg = k9 := nI_clamp (Nat.lt_of_le_of_lt hR.2.2.2.2.2.1 (by decide))
     have d3 : nI w9 = 6 ↔ w9 = 6 := nI_eq (b := 6) (Nat.lt_of_le_of_lt hR.2.2.2.1 (by decide)) (by decide)
     have d4 : nI k9 = 6 ↔ k9 = 6 := nI_eq (b := 6) (Nat.lt_of_le_of_lt hR.2.2.2.2.2.1 (by decide)) (by decide)
     have s3 : nI w9 + 1 = nI (w9 + 1) := nI_add w9 1
     have s4 : nI k9 + 1 = nI (k9 + 1) := nI_add k9 1
     have u3 := m38_up (f := fr) (i := 3) (v := nI (w9 + 1)) (by decide)
     simp only [sS, sE, sGG, sG0, sG1, sUb, sRb, sRa, kdM, uT, kG, a0, a4, b4, d4, s4] at *
     grind [m38_up])
theorem lf_X8_readSound_18 {mk : Int32} {mv : Int32} {mb : Int32} {mz : Nat} {mp : Nat} {ft_ : Nat → Int32} {fr : Nat → Int32} {c9 : Nat} {w9 : Nat} {k9 : Nat} {r_6 : Int32} {mkn_12 : Int32} {mvn_12 : Int32} {mbn_12 : Int32} {mpn_12 : Nat} {g_14 : Nat → Int32} {g_17 : Nat → Int32} {v_19 : Int32} {mkn_21 : Int32} {mvn_21 : Int32} {mbn_21 : Int32} {mpn_21 : Nat} {mwn_21 : Int32} {frn_21 : Nat → Int32} {mkn_25 : Int32} {mvn_25 : Int32} {mbn_25 : Int32} {mpn_25 : Nat} {mwn_25 : Int32} {frn_25 : Nat → Int32} (hmp : mp ≤ mz) (hmz : mz ≤ 120) (hR : okR fr c9 w9 k9 k9) (c_2 : mk = 1) (h_6 : r_6 = (kindX mv)) (c_7 : ¬ (r_6 = 0)) (c_11 : ¬ (k9 = 6)) (hF_12_0 : mpn_12 ≤ mz) (hF_12_1 : nT ft_ mz mp = (mkn_12, mvn_12, mbn_12, mpn_12)) (hu_14 : g_14 = upd fr (14 + k9) r_6) (hu_17 : g_17 = upd g_14 4 (nI (k9 + 1))) (e_19 : v_19 = ((nI c9) - 1)) (hF_21_0 : mpn_21 ≤ mz) (hF_21_2 : nU ft_ mz 0 v_19 44 (mkn_12, mvn_12, mbn_12, mpn_12) = (mkn_21, mvn_21, mbn_21, mpn_21)) (hF_21_3 : m38 frn_21 = nR 0 v_19 (20 + k9) (mkn_12, mvn_12, mbn_12, mpn_12) (m38 g_17)) (hF_21_4 : (¬ nGG ft_ mz 0 v_19 44 (mkn_12, mvn_12, mbn_12, mpn_12) → mwn_21 = nE 0 v_19 (mkn_12, mvn_12, mbn_12, mpn_12))) (f_21_1_0 : nGG ft_ mz 0 v_19 44 (mkn_12, mvn_12, mbn_12, mpn_12)) (hR_21 : okR frn_21 c9 w9 (k9 + 1) k9) (hF_25_0 : mpn_25 ≤ mz) (hF_25_2 : nU ft_ mz 1 20 59 (mkn_21, mvn_21, mbn_21, mpn_21) = (mkn_25, mvn_25, mbn_25, mpn_25)) (hF_25_3 : m38 frn_25 = nR 1 20 (32 + k9) (mkn_21, mvn_21, mbn_21, mpn_21) (m38 frn_21)) (hF_25_4 : (¬ nGG ft_ mz 1 20 59 (mkn_21, mvn_21, mbn_21, mpn_21) → mwn_25 = nE 1 20 (mkn_21, mvn_21, mbn_21, mpn_21))) (f_25_1_0 : nGG ft_ mz 1 20 59 (mkn_21, mvn_21, mbn_21, mpn_21)) (hR_25 : okR frn_25 c9 w9 (k9 + 1) (k9 + 1)) : sGG ft_ mz ((mk, mv, mb, mp), m38 fr) := by
  first
  | (have a := rsn (mb := mb) hR c_2 h_6 c_7 c_11 hF_12_1 hu_14 hu_17
     have b := sS_1 (s := ((mk, mv, mb, mp), m38 fr)) a.2.1 a.2.2.1 a.2.2.2 hF_12_1 e_19 hF_21_2 hF_21_3
     first
     | exact sS_n a.1 b.1 b.2.1 (fun q => f_21_0_0 (b.2.2.mp q))
     | exact sS_y a.1 b.1 b.2.1 (b.2.2.mpr f_21_1_0) a.2.2.2 hF_25_2 hF_25_3)
  | (have a3 : m38 fr 3 = nI w9 := (m38_at (by decide)).trans hR.2.2.1
     have a4 : m38 fr 4 = nI k9 := (m38_at (by decide)).trans hR.2.2.2.2.1
     have a0 : m38 fr 0 = nI c9 := (m38_at (by decide)).trans hR.1
     have b3 : (nI w9).toNatClampNeg = w9 := nI_clamp (Nat.lt_of_le_of_lt hR.2.2.2.1 (by decide))
     have b4 : (nI k9).toNatClampNeg = k9 := nI_clamp (Nat.lt_of_le_of_lt hR.2.2.2.2.2.1 (by decide))
     have d3 : nI w9 = 6 ↔ w9 = 6 := nI_eq (b := 6) (Nat.lt_of_le_of_lt hR.2.2.2.1 (by decide)) (by decide)
     have d4 : nI k9 = 6 ↔ k9 = 6 := nI_eq (b := 6) (Nat.lt_of_le_of_lt hR.2.2.2.2.2.1 (by decide)) (by decide)
     have s3 : nI w9 + 1 = nI (w9 + 1) := nI_add w9 1
     have s4 : nI k9 + 1 = nI (k9 + 1) := nI_add k9 1
     have u3 := m38_up (f := fr) (i := 3) (v := nI (w9 + 1)) (by decide)
     simp only [sS, sE, sGG, sG0, sG1, sUb, sRb, sRa, kdM, uT, kG, a0, a4, b4, d4, s4] at *
     grind [m38_up])
theorem lf_X8_readSound_19 {mk : Int32} {mv : Int32} {mb : Int32} {mz : Nat} {mp : Nat} {ft_ : Nat → Int32} {fr : Nat → Int32} {c9 : Nat} {w9 : Nat} {k9 : Nat} {r_6 : Int32} {mwn_29 : Int32} (hmp : mp ≤ mz) (hmz : mz ≤ 120) (hR : okR fr c9 w9 k9 k9) (c_2 : mk = 1) (h_6 : r_6 = (kindX mv)) (c_7 : ¬ (r_6 = 0)) (c_11 : k9 = 6) (c_28 : ¬ (r_6 = 0)) (hF_29_0 : mwn_29 = 3) : sS ft_ mz ((mk, mv, mb, mp), m38 fr) = ((mk, mv, mb, mp), m38 fr) := by
  first
  | (have a := rsn (mb := mb) hR c_2 h_6 c_7 c_11 hF_12_1 hu_14 hu_17
     have b := sS_1 (s := ((mk, mv, mb, mp), m38 fr)) a.2.1 a.2.2.1 a.2.2.2 hF_12_1 e_19 hF_21_2 hF_21_3
     first
     | exact sS_n a.1 b.1 b.2.1 (fun q => f_21_0_0 (b.2.2.mp q))
     | exact sS_y a.1 b.1 b.2.1 (b.2.2.mpr f_21_1_0) a.2.2.2 hF_25_2 hF_25_3)
  | (have a3 : m38 fr 3 = nI w9 := (m38_at (by decide)).trans hR.2.2.1
     have a4 : m38 fr 4 = nI k9 := (m38_at (by decide)).trans hR.2.2.2.2.1
     have a0 : m38 fr 0 = nI c9 := (m38_at (by decide)).trans hR.1
     have b3 : (nI w9).toNatClampNeg = w9 := nI_clamp (Nat.lt_of_le_of_lt hR.2.2.2.1 (by decide))
     have b4 : (nI k9).toNatClampNeg = k9 := nI_clamp (Nat.lt_of_le_of_lt hR.2.2.2.2.2.1 (by decide))
     have d3 : nI w9 = 6 ↔ w9 = 6 := nI_eq (b := 6) (Nat.lt_of_le_of_lt hR.2.2.2.1 (by decide)) (by decide)
     have d4 : nI k9 = 6 ↔ k9 = 6 := nI_eq (b := 6) (Nat.lt_of_le_of_lt hR.2.2.2.2.2.1 (by decide)) (by decide)
     have s3 : nI w9 + 1 = nI (w9 + 1) := nI_add w9 1
     have s4 : nI k9 + 1 = nI (k9 + 1) := nI_add k9 1
     have u3 := m38_up (f := fr) (i := 3) (v := nI (w9 + 1)) (by decide)
     simp only [sS, sE, sGG, sG0, sG1, sUb, sRb, sRa, kdM, uT, kG, a0, a4, b4, d4, s4] at *
     grind [m38_up])
theorem lf_X8_readSound_20 {mk : Int32} {mv : Int32} {mb : Int32} {mz : Nat} {mp : Nat} {ft_ : Nat → Int32} {fr : Nat → Int32} {c9 : Nat} {w9 : Nat} {k9 : Nat} {r_6 : Int32} {mwn_29 : Int32} (hmp : mp ≤ mz) (hmz : mz ≤ 120) (hR : okR fr c9 w9 k9 k9) (c_2 : mk = 1) (h_6 : r_6 = (kindX mv)) (c_7 : ¬ (r_6 = 0)) (c_11 : k9 = 6) (c_28 : ¬ (r_6 = 0)) (hF_29_0 : mwn_29 = 3) : (¬ sGG ft_ mz ((mk, mv, mb, mp), m38 fr) → mwn_29 = sE ft_ mz ((mk, mv, mb, mp), m38 fr)) := by
  first
  | (have a := rsn (mb := mb) hR c_2 h_6 c_7 c_11 hF_12_1 hu_14 hu_17
     have b := sS_1 (s := ((mk, mv, mb, mp), m38 fr)) a.2.1 a.2.2.1 a.2.2.2 hF_12_1 e_19 hF_21_2 hF_21_3
     first
     | exact sS_n a.1 b.1 b.2.1 (fun q => f_21_0_0 (b.2.2.mp q))
     | exact sS_y a.1 b.1 b.2.1 (b.2.2.mpr f_21_1_0) a.2.2.2 hF_25_2 hF_25_3)
  | (have a3 : m38 fr 3 = nI w9 := (m38_at (by decide)).trans hR.2.2.1
     have a4 : m38 fr 4 = nI k9 := (m38_at (by decide)).trans hR.2.2.2.2.1
     have a0 : m38 fr 0 = nI c9 := (m38_at (by decide)).trans hR.1
     have b3 : (nI w9).toNatClampNeg = w9 := nI_clamp (Nat.lt_of_le_of_lt hR.2.2.2.1 (by decide))
     have b4 : (nI k9).toNatClampNeg = k9 := nI_clamp (Nat.lt_of_le_of_lt hR.2.2.2.2.2.1 (by decide))
     have d3 : nI w9 = 6 ↔ w9 = 6 := nI_eq (b := 6) (Nat.lt_of_le_of_lt hR.2.2.2.1 (by decide)) (by decide)
     have d4 : nI k9 = 6 ↔ k9 = 6 := nI_eq (b := 6) (Nat.lt_of_le_of_lt hR.2.2.2.2.2.1 (by decide)) (by decide)
     have s3 : nI w9 + 1 = nI (w9 + 1) := nI_add w9 1
     have s4 : nI k9 + 1 = nI (k9 + 1) := nI_add k9 1
     have u3 := m38_up (f := fr) (i := 3) (v := nI (w9 + 1)) (by decide)
     simp only [sS, sE, sGG, sG0, sG1, sUb, sRb, sRa, kdM, uT, kG, a0, a4, b4, d4, s4] at *
     grind [m38_up])
theorem lf_X8_readSound_21 {mk : Int32} {mv : Int32} {mb : Int32} {mz : Nat} {mp : Nat} {ft_ : Nat → Int32} {fr : Nat → Int32} {c9 : Nat} {w9 : Nat} {k9 : Nat} {r_6 : Int32} {mwn_29 : Int32} (hmp : mp ≤ mz) (hmz : mz ≤ 120) (hR : okR fr c9 w9 k9 k9) (c_2 : mk = 1) (h_6 : r_6 = (kindX mv)) (c_7 : ¬ (r_6 = 0)) (c_11 : k9 = 6) (c_28 : ¬ (r_6 = 0)) (hF_29_0 : mwn_29 = 3) : ¬ sGG ft_ mz ((mk, mv, mb, mp), m38 fr) := by
  first
  | (have a := rsn (mb := mb) hR c_2 h_6 c_7 c_11 hF_12_1 hu_14 hu_17
     have b := sS_1 (s := ((mk, mv, mb, mp), m38 fr)) a.2.1 a.2.2.1 a.2.2.2 hF_12_1 e_19 hF_21_2 hF_21_3
     first
     | exact sS_n a.1 b.1 b.2.1 (fun q => f_21_0_0 (b.2.2.mp q))
     | exact sS_y a.1 b.1 b.2.1 (b.2.2.mpr f_21_1_0) a.2.2.2 hF_25_2 hF_25_3)
  | (have a3 : m38 fr 3 = nI w9 := (m38_at (by decide)).trans hR.2.2.1
     have a4 : m38 fr 4 = nI k9 := (m38_at (by decide)).trans hR.2.2.2.2.1
     have a0 : m38 fr 0 = nI c9 := (m38_at (by decide)).trans hR.1
     have b3 : (nI w9).toNatClampNeg = w9 := nI_clamp (Nat.lt_of_le_of_lt hR.2.2.2.1 (by decide))
     have b4 : (nI k9).toNatClampNeg = k9 := nI_clamp (Nat.lt_of_le_of_lt hR.2.2.2.2.2.1 (by decide))
     have d3 : nI w9 = 6 ↔ w9 = 6 := nI_eq (b := 6) (Nat.lt_of_le_of_lt hR.2.2.2.1 (by decide)) (by decide)
     have d4 : nI k9 = 6 ↔ k9 = 6 := nI_eq (b := 6) (Nat.lt_of_le_of_lt hR.2.2.2.2.2.1 (by decide)) (by decide)
     have s3 : nI w9 + 1 = nI (w9 + 1) := nI_add w9 1
     have s4 : nI k9 + 1 = nI (k9 + 1) := nI_add k9 1
     have u3 := m38_up (f := fr) (i := 3) (v := nI (w9 + 1)) (by decide)
     simp only [sS, sE, sGG, sG0, sG1, sUb, sRb, sRa, kdM, uT, kG, a0, a4, b4, d4, s4] at *
     grind [m38_up])
theorem lf_X8_readSound_22 {mk : Int32} {mv : Int32} {mb : Int32} {mz : Nat} {mp : Nat} {ft_ : Nat → Int32} {fr : Nat → Int32} {c9 : Nat} {w9 : Nat} {k9 : Nat} {r_6 : Int32} {mwn_30 : Int32} (hmp : mp ≤ mz) (hmz : mz ≤ 120) (hR : okR fr c9 w9 k9 k9) (c_2 : mk = 1) (h_6 : r_6 = (kindX mv)) (c_7 : ¬ (r_6 = 0)) (c_11 : k9 = 6) (c_28 : r_6 = 0) (hF_30_0 : mwn_30 = 1) : sS ft_ mz ((mk, mv, mb, mp), m38 fr) = ((mk, mv, mb, mp), m38 fr) := by
  exact absurd c_28 c_7
theorem lf_X8_readSound_23 {mk : Int32} {mv : Int32} {mb : Int32} {mz : Nat} {mp : Nat} {ft_ : Nat → Int32} {fr : Nat → Int32} {c9 : Nat} {w9 : Nat} {k9 : Nat} {r_6 : Int32} {mwn_30 : Int32} (hmp : mp ≤ mz) (hmz : mz ≤ 120) (hR : okR fr c9 w9 k9 k9) (c_2 : mk = 1) (h_6 : r_6 = (kindX mv)) (c_7 : ¬ (r_6 = 0)) (c_11 : k9 = 6) (c_28 : r_6 = 0) (hF_30_0 : mwn_30 = 1) : (¬ sGG ft_ mz ((mk, mv, mb, mp), m38 fr) → mwn_30 = sE ft_ mz ((mk, mv, mb, mp), m38 fr)) := by
  exact absurd c_28 c_7
theorem lf_X8_readSound_24 {mk : Int32} {mv : Int32} {mb : Int32} {mz : Nat} {mp : Nat} {ft_ : Nat → Int32} {fr : Nat → Int32} {c9 : Nat} {w9 : Nat} {k9 : Nat} {r_6 : Int32} {mwn_30 : Int32} (hmp : mp ≤ mz) (hmz : mz ≤ 120) (hR : okR fr c9 w9 k9 k9) (c_2 : mk = 1) (h_6 : r_6 = (kindX mv)) (c_7 : ¬ (r_6 = 0)) (c_11 : k9 = 6) (c_28 : r_6 = 0) (hF_30_0 : mwn_30 = 1) : ¬ sGG ft_ mz ((mk, mv, mb, mp), m38 fr) := by
  exact absurd c_28 c_7
set_option maxHeartbeats 4000000 in
set_option maxRecDepth 100000 in
theorem r_X8_readSound (l : Launch) (dC : Nat → ClassId) (dI : Nat → Nat → Nat) (cI cZ cL cJ : ClassId) (sz : Nat) (mo : Nat) (m_la : Nat) (m_sz : Nat) (m_it : Nat) (m_st : Nat) (m_mv : Nat) (m_tp : Nat) (m_rd : Nat) (m_ac : Nat) (m_as : Nat) (m_wo : Nat) (m_ik : Nat) (m_ke : Nat) (m_tr : Nat) (ms : Int32) (mt : Int32) (ml : Int32) (mk : Int32) (mv : Int32) (mb : Int32) (mw : Int32) (mz : Nat) (mp : Nat) (ma : Nat) (mx : Nat) (ft_ : Nat → Int32) (fr : Nat → Int32) (c9 : Nat) (w9 : Nat) (k9 : Nat) (hmp : mp ≤ mz) (hmz : mz ≤ 120) (hR : okR fr c9 w9 k9 k9) : Met l yX8_readSound wsX8_readSound ({ frames := 4, cells := 0, slots := 0, locals := 90 }) (va_Pc [.ref mo] (fun U => U.heap.size = sz ∧ va_P (dC, dI) vwCl [(xo_8_rrriirrriiiiiiirrirrrrri mo m_la m_sz m_it ms mt m_st m_mv m_tp (nI mz) ml (nI mp) mk mv mb mw m_rd m_ac (nI ma) m_as m_wo m_ik m_ke m_tr (nI mx)), (xI m_tp cI 120 ft_), (xI m_rd cI 38 fr)] U.heap ∧ va_K (dC, dI) vwCl [(cI, .int), (cZ, .boolean), (cL, .object RX3), (cJ, .array .int)] U ∧ va_D (fun _ => True) [(xo_8_rrriirrriiiiiiirrirrrrri mo m_la m_sz m_it ms mt m_st m_mv m_tp (nI mz) ml (nI mp) mk mv mb mw m_rd m_ac (nI ma) m_as m_wo m_ik m_ke m_tr (nI mx)), (xI m_tp cI 120 ft_), (xI m_rd cI 38 fr)])) (va_Qi (fun r (u : Int32) => r = u ∧ ((r = 0 ∧ ¬ sGG ft_ mz ((mk, mv, mb, mp), m38 fr)) ∨ (r = 1 ∧ sGG ft_ mz ((mk, mv, mb, mp), m38 fr)))) (fun (u : Int32) t => ∃ (mkn : Int32) (mvn : Int32) (mbn : Int32) (mpn : Nat) (mwn : Int32) (frn : Nat → Int32), va_P (dC, dI) vwCl [(xo_8_rrriirrriiiiiiirrirrrrri mo m_la m_sz m_it ms mt m_st m_mv m_tp (nI mz) ml (nI mpn) mkn mvn mbn mwn m_rd m_ac (nI ma) m_as m_wo m_ik m_ke m_tr (nI mx)), (xI m_tp cI 120 ft_), (xI m_rd cI 38 frn)] t.heap ∧ va_D (va_A [(xo_8_rrriirrriiiiiiirrirrrrri mo m_la m_sz m_it ms mt m_st m_mv m_tp (nI mz) ml (nI mp) mk mv mb mw m_rd m_ac (nI ma) m_as m_wo m_ik m_ke m_tr (nI mx)), (xI m_tp cI 120 ft_), (xI m_rd cI 38 fr)] sz) [(xo_8_rrriirrriiiiiiirrirrrrri mo m_la m_sz m_it ms mt m_st m_mv m_tp (nI mz) ml (nI mpn) mkn mvn mbn mwn m_rd m_ac (nI ma) m_as m_wo m_ik m_ke m_tr (nI mx)), (xI m_tp cI 120 ft_), (xI m_rd cI 38 frn)] ∧ mpn ≤ mz ∧ (u = 1 → okR frn c9 w9 (k9 + 1) (k9 + 1) ∧ k9 < 6) ∧ sS ft_ mz ((mk, mv, mb, mp), m38 fr) = ((mkn, mvn, mbn, mpn), m38 frn) ∧ (¬ sGG ft_ mz ((mk, mv, mb, mp), m38 fr) → mwn = sE ft_ mz ((mk, mv, mb, mp), m38 fr))) (va_A [(xo_8_rrriirrriiiiiiirrirrrrri mo m_la m_sz m_it ms mt m_st m_mv m_tp (nI mz) ml (nI mp) mk mv mb mw m_rd m_ac (nI ma) m_as m_wo m_ik m_ke m_tr (nI mx)), (xI m_tp cI 120 ft_), (xI m_rd cI 38 fr)] sz)) 0 0 (va_A [(xo_8_rrriirrriiiiiiirrirrrrri mo m_la m_sz m_it ms mt m_st m_mv m_tp (nI mz) ml (nI mp) mk mv mb mw m_rd m_ac (nI ma) m_as m_wo m_ik m_ke m_tr (nI mx)), (xI m_tp cI 120 ft_), (xI m_rd cI 38 fr)] sz) := by
  refine Met.ofW (cc := cX8_readSound) (maxL := 3) (ret := (some .boolean)) (by decide) rfl ?_
  intro p e s m args below meth c s₁ B hml hv
  obtain ⟨rfl, hsz, hP, hK, hD0⟩ := hv
  have hx := B.exec
  have hb := B.bytes
  have hr := B.returns
  have hts := atoms_spec (ws := wsX8_readSound) B.pre
  have hown : s.vm.findClass RX8 = some m.cls := findClass_of_methodNamed B.named
  have hlocks := B.notSynchronized
  subst hsz
  have hD := hD0.self (sz := s.heap.size)
  generalize hAe : va_A [(xo_8_rrriirrriiiiiiirrirrrrri mo m_la m_sz m_it ms mt m_st m_mv m_tp (nI mz) ml (nI mp) mk mv mb mw m_rd m_ac (nI ma) m_as m_wo m_ik m_ke m_tr (nI mx)), (xI m_tp cI 120 ft_), (xI m_rd cI 38 fr)] s.heap.size = A at hD ⊢
  have hA : ∀ q : Nat, s.heap.size ≤ q → A q := fun q h => by rw [← hAe]; exact Or.inr h
  have hS : va_S A s.heap s.heap [] := va_S.rf
  have hP : va_P (dC, dI) vwCl [(xo_8_rrriirrriiiiiiirrirrrrri mo m_la m_sz m_it ms mt m_st m_mv m_tp (nI mz) ml (nI mp) mk mv mb mw m_rd m_ac (nI ma) m_as m_wo m_ik m_ke m_tr (nI mx)), (xI m_tp cI 120 ft_), (xI m_rd cI 38 fr)] s.heap := hP
  have hl := lv_entry ([.ref mo]) (n := 3) (Nat.le_of_ble_eq_true rfl)
  rw [lg_entry_eq]
  generalize (lg_sl ([.ref mo]) ++ List.replicate (3 - (lg_sl ([.ref mo])).length) Slot.unset).toArray = ls at hl ⊢
  have hl : lv_has ls 3 [(0, .ref mo)] := hl
  have hw6 := hR.2.2.2.1
  have hk6 := hR.2.2.2.2.2.1
  refine lv_aload_n hx hb dX8_readSound_0 rfl (lv_at hl 0 rfl) ?_
  refine va_get (D := (dC, dI)) (ci := 8) (v := .ref m_rd) (C := RX8) (T := TX8) (N := 24) hx hb hts i_X8_readSound_X8 hown hK hP 0 rfl rfl 15 (by decide) (hts _ mx_X8_readSound_1) (fun _ h9 => h9) rfl dX8_readSound_1 ?_
  refine lv_iconst (v := 4) hx hb dX8_readSound_4 (by decide) ?_
  refine va_iald hx hb hK hP 2 0 rfl rfl (by unfold vp_in; decide) dX8_readSound_5 ?_
  refine lv_topi (fun v_1 e_1 => ?_)
  obtain rfl : v_1 = (nI k9) := (e_1).trans hR.2.2.2.2.1
  refine lv_istore_n (lv' := [(1, .int (nI k9)), (0, .ref mo)]) hx hb dX8_readSound_6 rfl hl (by decide) rfl (fun ls hl => ?_)
  refine lv_aload_n hx hb dX8_readSound_7 rfl (lv_at hl 1 rfl) ?_
  refine va_get (D := (dC, dI)) (ci := 8) (v := .int mk) (C := RX8) (T := TX8) (N := 24) hx hb hts i_X8_readSound_X8 hown hK hP 0 rfl rfl 11 (by decide) (hts _ mx_X8_readSound_2) (fun _ h9 => h9) rfl dX8_readSound_8 ?_
  refine lv_iconst (v := 1) hx hb dX8_readSound_11 (by decide) ?_
  refine lv_icmp_ne (tgt := 25) hx hb dX8_readSound_12 (by decide) (fun c_2 => ?_) (fun c_2 => ?_)
  · skip
    refine lv_iconst (v := 0) hx hb dX8_readSound_25 (by decide) ?_
    refine lv_istore_n (lv' := [(2, .int 0), (1, .int (nI k9)), (0, .ref mo)]) hx hb dX8_readSound_26 rfl hl (by decide) rfl (fun ls hl => ?_)
    refine lv_iload_n hx hb dX8_readSound_27 rfl (lv_at hl 0 rfl) ?_
    refine lv_if_eq (tgt := 37) hx hb dX8_readSound_28 (by decide) (fun _ => ?_) (fun c_ => absurd (by decide) c_)
    refine lv_aload_n hx hb dX8_readSound_37 rfl (lv_at hl 2 rfl) ?_
    refine lv_iload_n hx hb dX8_readSound_38 rfl (lv_at hl 0 rfl) ?_
    refine lv_if_ne (tgt := 46) hx hb dX8_readSound_39 (by decide) (fun c_ => absurd (by decide) c_) (fun _ => ?_)
    refine lv_iconst (v := 1) hx hb dX8_readSound_42 (by decide) ?_
    refine lv_goto (tgt := 47) hx hb dX8_readSound_43 (by decide) ?_
    have hc_5 := cutW (wc := [(xo_8_rrriirrriiiiiiirrirrrrri mo m_la m_sz m_it ms mt m_st m_mv m_tp (nI mz) ml (nI mp) mk mv mb mw m_rd m_ac (nI ma) m_as m_wo m_ik m_ke m_tr (nI mx))]) hP hD hS hA [0] (by decide +kernel) rfl
    refine va_calli (va_runV (As := [.int 1]) (rest := []) ⟨hx, hb, hml, hown, hts⟩ (r_X8_faults l dC dI cI cZ cL cJ s.heap.size mo m_la m_sz m_it m_st m_mv m_tp m_rd m_ac m_as m_wo m_ik m_ke m_tr ms mt ml mk mv mb mw mz mp ma mx 1 ) (cwV 1 hts gX8_readSound_X8_faults rfl rfl rfl (by decide +kernel) ⟨Nat.le_of_ble_eq_true rfl, Nat.le_of_ble_eq_true rfl⟩) (pvW 8 0 hK hP rfl rfl hc_5) rfl rfl hl.1 rfl (lv_room (Nat.le_of_ble_eq_true rfl)) dX8_readSound_47 ⟨Nat.le_of_ble_eq_true rfl, Nat.le_of_ble_eq_true rfl⟩) hS (fun q _ h => hc_5.2.2 q h) hc_5.2.2 (fun r_5 u_5 t_5 H1 locs ht hvm h_5 hB hz1 hk1 hS => ?_)
    refine xl_1_3 hB (fun mwn_5 hP1 hD1 hF_5_0 => ?_)
    clear hB
    rw [ht] at hP1
    obtain ⟨hP, hD⟩ := va_join (wr := [(xI m_tp cI 120 ft_), (xI m_rd cI 38 fr)]) (w1 := [(xo_8_rrriirrriiiiiiirrirrrrri mo m_la m_sz m_it ms mt m_st m_mv m_tp (nI mz) ml (nI mp) mk mv mb mwn_5 m_rd m_ac (nI ma) m_as m_wo m_ik m_ke m_tr (nI mx))]) hP hD [0] [1, 2] rfl rfl (by decide +kernel) (by decide +kernel) hk1 hc_5.2.2 hP1 hD1
    generalize H1 = H at hP hS ⊢
    have hP : va_P (dC, dI) vwCl [(xI m_tp cI 120 ft_), (xI m_rd cI 38 fr), (xo_8_rrriirrriiiiiiirrirrrrri mo m_la m_sz m_it ms mt m_st m_mv m_tp (nI mz) ml (nI mp) mk mv mb mwn_5 m_rd m_ac (nI ma) m_as m_wo m_ik m_ke m_tr (nI mx))] H := hP
    have hD := dto hP hD
    subst h_5
    have hX9 := cut2 (wc := [(xo_8_rrriirrriiiiiiirrirrrrri mo m_la m_sz m_it ms mt m_st m_mv m_tp (nI mz) ml (nI mp) mk mv mb mwn_5 m_rd m_ac (nI ma) m_as m_wo m_ik m_ke m_tr (nI mx)), (xI m_tp cI 120 ft_), (xI m_rd cI 38 fr)]) hP hD [2, 0, 1] (by decide +kernel) rfl
    exact W.zret (v := 0) hx hb hr (by decide) (fun t ht hW => ⟨⟨0, 0, rfl, ⟨rfl, Or.inl (⟨rfl, (lf_X8_readSound_3 hmp hmz hR c_2 hF_5_0)⟩)⟩, ⟨mk, mv, mb, mp, mwn_5, fr, va_Ht ht hX9.1, hX9.2, (by omega), (fun h_ => absurd h_ (by decide)), (lf_X8_readSound_1 hmp hmz hR c_2 hF_5_0), (lf_X8_readSound_2 hmp hmz hR c_2 hF_5_0)⟩⟩, hS.F ht⟩) hS.2.2 dX8_readSound_50
  · skip
    refine lv_aload_n hx hb dX8_readSound_15 rfl (lv_at hl 1 rfl) ?_
    refine va_get (D := (dC, dI)) (ci := 8) (v := .int mv) (C := RX8) (T := TX8) (N := 24) hx hb hts i_X8_readSound_X8 hown hK hP 0 rfl rfl 12 (by decide) (hts _ mx_X8_readSound_3) (fun _ h9 => h9) rfl dX8_readSound_16 ?_
    have hPc_6 := hP.sub (ws' := []) [] rfl
    refine vp_callSi (W.runS (As := [.int mv]) (rest := []) ⟨hx, hb, hml, hown, hts⟩ (r_X8_kindBy l dC dI cI cZ cL cJ mv ) (va_cwS 1 hts gX8_readSound_X8_kindBy rfl rfl rfl (by decide +kernel) ⟨Nat.le_of_ble_eq_true rfl, Nat.le_of_ble_eq_true rfl⟩) (psP hK hPc_6) rfl rfl hl.1 rfl (lv_room (Nat.le_of_ble_eq_true rfl)) dX8_readSound_19 ⟨Nat.le_of_ble_eq_true rfl, Nat.le_of_ble_eq_true rfl⟩) (fun r_6 h_6 => ?_)
    refine lv_goto (tgt := 26) hx hb dX8_readSound_22 (by decide) ?_
    refine lv_istore_n (lv' := [(2, .int r_6), (1, .int (nI k9)), (0, .ref mo)]) hx hb dX8_readSound_26 rfl hl (by decide) rfl (fun ls hl => ?_)
    refine lv_iload_n hx hb dX8_readSound_27 rfl (lv_at hl 0 rfl) ?_
    refine lv_if_eq (tgt := 37) hx hb dX8_readSound_28 (by decide) (fun c_7 => ?_) (fun c_7 => ?_)
    · skip
      refine lv_aload_n hx hb dX8_readSound_37 rfl (lv_at hl 2 rfl) ?_
      refine lv_iload_n hx hb dX8_readSound_38 rfl (lv_at hl 0 rfl) ?_
      refine lv_if_ne (tgt := 46) hx hb dX8_readSound_39 (by decide) (fun c_8 => ?_) (fun c_8 => ?_)
      · skip
        refine lv_iconst (v := 3) hx hb dX8_readSound_46 (by decide) ?_
        have hc_9 := cutW (wc := [(xo_8_rrriirrriiiiiiirrirrrrri mo m_la m_sz m_it ms mt m_st m_mv m_tp (nI mz) ml (nI mp) mk mv mb mw m_rd m_ac (nI ma) m_as m_wo m_ik m_ke m_tr (nI mx))]) hP hD hS hA [0] (by decide +kernel) rfl
        refine va_calli (va_runV (As := [.int 3]) (rest := []) ⟨hx, hb, hml, hown, hts⟩ (r_X8_faults l dC dI cI cZ cL cJ s.heap.size mo m_la m_sz m_it m_st m_mv m_tp m_rd m_ac m_as m_wo m_ik m_ke m_tr ms mt ml mk mv mb mw mz mp ma mx 3 ) (cwV 1 hts gX8_readSound_X8_faults rfl rfl rfl (by decide +kernel) ⟨Nat.le_of_ble_eq_true rfl, Nat.le_of_ble_eq_true rfl⟩) (pvW 8 0 hK hP rfl rfl hc_9) rfl rfl hl.1 rfl (lv_room (Nat.le_of_ble_eq_true rfl)) dX8_readSound_47 ⟨Nat.le_of_ble_eq_true rfl, Nat.le_of_ble_eq_true rfl⟩) hS (fun q _ h => hc_9.2.2 q h) hc_9.2.2 (fun r_9 u_9 t_9 H1 locs ht hvm h_9 hB hz1 hk1 hS => ?_)
        refine xl_1_3 hB (fun mwn_9 hP1 hD1 hF_9_0 => ?_)
        clear hB
        rw [ht] at hP1
        obtain ⟨hP, hD⟩ := va_join (wr := [(xI m_tp cI 120 ft_), (xI m_rd cI 38 fr)]) (w1 := [(xo_8_rrriirrriiiiiiirrirrrrri mo m_la m_sz m_it ms mt m_st m_mv m_tp (nI mz) ml (nI mp) mk mv mb mwn_9 m_rd m_ac (nI ma) m_as m_wo m_ik m_ke m_tr (nI mx))]) hP hD [0] [1, 2] rfl rfl (by decide +kernel) (by decide +kernel) hk1 hc_9.2.2 hP1 hD1
        generalize H1 = H at hP hS ⊢
        have hP : va_P (dC, dI) vwCl [(xI m_tp cI 120 ft_), (xI m_rd cI 38 fr), (xo_8_rrriirrriiiiiiirrirrrrri mo m_la m_sz m_it ms mt m_st m_mv m_tp (nI mz) ml (nI mp) mk mv mb mwn_9 m_rd m_ac (nI ma) m_as m_wo m_ik m_ke m_tr (nI mx))] H := hP
        have hD := dto hP hD
        subst h_9
        have hX9 := cut2 (wc := [(xo_8_rrriirrriiiiiiirrirrrrri mo m_la m_sz m_it ms mt m_st m_mv m_tp (nI mz) ml (nI mp) mk mv mb mwn_9 m_rd m_ac (nI ma) m_as m_wo m_ik m_ke m_tr (nI mx)), (xI m_tp cI 120 ft_), (xI m_rd cI 38 fr)]) hP hD [2, 0, 1] (by decide +kernel) rfl
        exact W.zret (v := 0) hx hb hr (by decide) (fun t ht hW => ⟨⟨0, 0, rfl, ⟨rfl, Or.inl (⟨rfl, (lf_X8_readSound_6 hmp hmz hR c_2 h_6 c_7 c_8 hF_9_0)⟩)⟩, ⟨mk, mv, mb, mp, mwn_9, fr, va_Ht ht hX9.1, hX9.2, (by omega), (fun h_ => absurd h_ (by decide)), (lf_X8_readSound_4 hmp hmz hR c_2 h_6 c_7 c_8 hF_9_0), (lf_X8_readSound_5 hmp hmz hR c_2 h_6 c_7 c_8 hF_9_0)⟩⟩, hS.F ht⟩) hS.2.2 dX8_readSound_50
      · skip
        refine lv_iconst (v := 1) hx hb dX8_readSound_42 (by decide) ?_
        refine lv_goto (tgt := 47) hx hb dX8_readSound_43 (by decide) ?_
        have hc_10 := cutW (wc := [(xo_8_rrriirrriiiiiiirrirrrrri mo m_la m_sz m_it ms mt m_st m_mv m_tp (nI mz) ml (nI mp) mk mv mb mw m_rd m_ac (nI ma) m_as m_wo m_ik m_ke m_tr (nI mx))]) hP hD hS hA [0] (by decide +kernel) rfl
        refine va_calli (va_runV (As := [.int 1]) (rest := []) ⟨hx, hb, hml, hown, hts⟩ (r_X8_faults l dC dI cI cZ cL cJ s.heap.size mo m_la m_sz m_it m_st m_mv m_tp m_rd m_ac m_as m_wo m_ik m_ke m_tr ms mt ml mk mv mb mw mz mp ma mx 1 ) (cwV 1 hts gX8_readSound_X8_faults rfl rfl rfl (by decide +kernel) ⟨Nat.le_of_ble_eq_true rfl, Nat.le_of_ble_eq_true rfl⟩) (pvW 8 0 hK hP rfl rfl hc_10) rfl rfl hl.1 rfl (lv_room (Nat.le_of_ble_eq_true rfl)) dX8_readSound_47 ⟨Nat.le_of_ble_eq_true rfl, Nat.le_of_ble_eq_true rfl⟩) hS (fun q _ h => hc_10.2.2 q h) hc_10.2.2 (fun r_10 u_10 t_10 H1 locs ht hvm h_10 hB hz1 hk1 hS => ?_)
        refine xl_1_3 hB (fun mwn_10 hP1 hD1 hF_10_0 => ?_)
        clear hB
        rw [ht] at hP1
        obtain ⟨hP, hD⟩ := va_join (wr := [(xI m_tp cI 120 ft_), (xI m_rd cI 38 fr)]) (w1 := [(xo_8_rrriirrriiiiiiirrirrrrri mo m_la m_sz m_it ms mt m_st m_mv m_tp (nI mz) ml (nI mp) mk mv mb mwn_10 m_rd m_ac (nI ma) m_as m_wo m_ik m_ke m_tr (nI mx))]) hP hD [0] [1, 2] rfl rfl (by decide +kernel) (by decide +kernel) hk1 hc_10.2.2 hP1 hD1
        generalize H1 = H at hP hS ⊢
        have hP : va_P (dC, dI) vwCl [(xI m_tp cI 120 ft_), (xI m_rd cI 38 fr), (xo_8_rrriirrriiiiiiirrirrrrri mo m_la m_sz m_it ms mt m_st m_mv m_tp (nI mz) ml (nI mp) mk mv mb mwn_10 m_rd m_ac (nI ma) m_as m_wo m_ik m_ke m_tr (nI mx))] H := hP
        have hD := dto hP hD
        subst h_10
        have hX9 := cut2 (wc := [(xo_8_rrriirrriiiiiiirrirrrrri mo m_la m_sz m_it ms mt m_st m_mv m_tp (nI mz) ml (nI mp) mk mv mb mwn_10 m_rd m_ac (nI ma) m_as m_wo m_ik m_ke m_tr (nI mx)), (xI m_tp cI 120 ft_), (xI m_rd cI 38 fr)]) hP hD [2, 0, 1] (by decide +kernel) rfl
        exact W.zret (v := 0) hx hb hr (by decide) (fun t ht hW => ⟨⟨0, 0, rfl, ⟨rfl, Or.inl (⟨rfl, (lf_X8_readSound_9 hmp hmz hR c_2 h_6 c_7 c_8 hF_10_0)⟩)⟩, ⟨mk, mv, mb, mp, mwn_10, fr, va_Ht ht hX9.1, hX9.2, (by omega), (fun h_ => absurd h_ (by decide)), (lf_X8_readSound_7 hmp hmz hR c_2 h_6 c_7 c_8 hF_10_0), (lf_X8_readSound_8 hmp hmz hR c_2 h_6 c_7 c_8 hF_10_0)⟩⟩, hS.F ht⟩) hS.2.2 dX8_readSound_50
    · skip
      refine lv_iload_n hx hb dX8_readSound_31 rfl (lv_at hl 1 rfl) ?_
      refine lv_bipush (v := 6) hx hb dX8_readSound_32 (by decide) ?_
      refine lv_icmp_ne (tgt := 51) hx hb dX8_readSound_34 (by decide) (fun c_11 => ?_) (fun c_11 => ?_)
      · have c_11 : ¬ (k9 = 6) := fun q_ => c_11 ((nI_eq (a := k9) (b := 6) (by omega) (by omega)).mpr q_)
        refine lv_aload_n hx hb dX8_readSound_51 rfl (lv_at hl 2 rfl) ?_
        have hc_12 := cutW (wc := [(xo_8_rrriirrriiiiiiirrirrrrri mo m_la m_sz m_it ms mt m_st m_mv m_tp (nI mz) ml (nI mp) mk mv mb mw m_rd m_ac (nI ma) m_as m_wo m_ik m_ke m_tr (nI mx)), (xI m_tp cI 120 ft_)]) hP hD hS hA [0, 1] (by decide +kernel) rfl
        refine va_callv (va_runV (As := []) (rest := []) ⟨hx, hb, hml, hown, hts⟩ (r_X8_nextToken l dC dI cI cZ cL cJ s.heap.size mo m_la m_sz m_it m_st m_mv m_tp m_rd m_ac m_as m_wo m_ik m_ke m_tr ms mt ml mk mv mb mw mz mp ma mx ft_ (by omega) (hmz)) (cwV 0 hts gX8_readSound_X8_nextToken rfl rfl rfl (by decide +kernel) ⟨Nat.le_of_ble_eq_true rfl, Nat.le_of_ble_eq_true rfl⟩) (pvW 8 0 hK hP rfl rfl hc_12) rfl rfl hl.1 rfl (lv_room (Nat.le_of_ble_eq_true rfl)) dX8_readSound_52 ⟨Nat.le_of_ble_eq_true rfl, Nat.le_of_ble_eq_true rfl⟩) hS (fun q _ h => hc_12.2.2 q h) hc_12.2.2 (fun u_12 t_12 H1 locs ht hvm h_12 hB hz1 hk1 hS => ?_)
        refine xl_4_4 hB (fun mkn_12 mvn_12 mbn_12 mpn_12 hP1 hD1 hF_12_0 hF_12_1 => ?_)
        clear hB
        rw [ht] at hP1
        obtain ⟨hP, hD⟩ := va_join (wr := [(xI m_rd cI 38 fr)]) (w1 := [(xo_8_rrriirrriiiiiiirrirrrrri mo m_la m_sz m_it ms mt m_st m_mv m_tp (nI mz) ml (nI mpn_12) mkn_12 mvn_12 mbn_12 mw m_rd m_ac (nI ma) m_as m_wo m_ik m_ke m_tr (nI mx)), (xI m_tp cI 120 ft_)]) hP hD [0, 1] [2] rfl rfl (by decide +kernel) (by decide +kernel) hk1 hc_12.2.2 hP1 hD1
        generalize H1 = H at hP hS ⊢
        have hP : va_P (dC, dI) vwCl [(xI m_rd cI 38 fr), (xo_8_rrriirrriiiiiiirrirrrrri mo m_la m_sz m_it ms mt m_st m_mv m_tp (nI mz) ml (nI mpn_12) mkn_12 mvn_12 mbn_12 mw m_rd m_ac (nI ma) m_as m_wo m_ik m_ke m_tr (nI mx)), (xI m_tp cI 120 ft_)] H := hP
        have hD := dto hP hD
        refine lv_aload_n hx hb dX8_readSound_55 rfl (lv_at hl 2 rfl) ?_
        refine va_get (D := (dC, dI)) (ci := 8) (v := .ref m_rd) (C := RX8) (T := TX8) (N := 24) hx hb hts i_X8_readSound_X8 hown hK hP 1 rfl rfl 15 (by decide) (hts _ mx_X8_readSound_1) (fun _ h9 => h9) rfl dX8_readSound_56 ?_
        refine lv_bipush (v := 14) hx hb dX8_readSound_59 (by decide) ?_
        refine lv_iload_n hx hb dX8_readSound_61 rfl (lv_at hl 1 rfl) ?_
        refine lv_iadd hx hb dX8_readSound_62 ?_
        refine lv_topi (fun v_13 e_13 => ?_)
        obtain rfl : v_13 = (nI (14 + k9)) := (e_13).trans (nI_add 14 k9)
        refine lv_iload_n hx hb dX8_readSound_63 rfl (lv_at hl 0 rfl) ?_
        refine va_iast hx hb hK hP hD hS 0 0 rfl rfl (vp_in_nI (by omega) (by omega)) dX8_readSound_64 (fun H locs hP hD hS => ?_)
        generalize hg_14 : upd fr ((nI (14 + k9)) : Int32).toNatClampNeg r_6 = g_14 at hP hD
        have hu_14 : g_14 = upd fr (14 + k9) r_6 := (by rw [← hg_14, nI_clamp (by omega)])
        have hR_14 : okR g_14 c9 w9 k9 k9 := okR_off (i := (14 + k9)) hR (by rw [nI_clamp (by omega)] at hg_14; exact hg_14) (by omega) (by omega) (by omega) (by omega) (by omega)
        have hP : va_P (dC, dI) vwCl [(xI m_rd cI 38 g_14), (xo_8_rrriirrriiiiiiirrirrrrri mo m_la m_sz m_it ms mt m_st m_mv m_tp (nI mz) ml (nI mpn_12) mkn_12 mvn_12 mbn_12 mw m_rd m_ac (nI ma) m_as m_wo m_ik m_ke m_tr (nI mx)), (xI m_tp cI 120 ft_)] H := hP
        have hD := dto hP hD
        refine lv_aload_n hx hb dX8_readSound_65 rfl (lv_at hl 2 rfl) ?_
        refine va_get (D := (dC, dI)) (ci := 8) (v := .ref m_rd) (C := RX8) (T := TX8) (N := 24) hx hb hts i_X8_readSound_X8 hown hK hP 1 rfl rfl 15 (by decide) (hts _ mx_X8_readSound_1) (fun _ h9 => h9) rfl dX8_readSound_66 ?_
        refine lv_iconst (v := 4) hx hb dX8_readSound_69 (by decide) ?_
        refine lv_dup2_11 hx hb dX8_readSound_70 rfl rfl ?_
        refine va_iald hx hb hK hP 0 0 rfl rfl (by unfold vp_in; decide) dX8_readSound_71 ?_
        refine lv_topi (fun v_15 e_15 => ?_)
        obtain rfl : v_15 = (nI k9) := (e_15).trans hR_14.2.2.2.2.1
        refine lv_iconst (v := 1) hx hb dX8_readSound_72 (by decide) ?_
        refine lv_iadd hx hb dX8_readSound_73 ?_
        refine lv_topi (fun v_16 e_16 => ?_)
        obtain rfl : v_16 = (nI (k9 + 1)) := (e_16).trans (nI_add k9 1)
        refine va_iast hx hb hK hP hD hS 0 0 rfl rfl (by unfold vp_in; decide) dX8_readSound_74 (fun H locs hP hD hS => ?_)
        generalize hg_17 : upd g_14 (4 : Int32).toNatClampNeg (nI (k9 + 1)) = g_17 at hP hD
        have hu_17 : g_17 = upd g_14 4 (nI (k9 + 1)) := hg_17.symm
        have hR_17 : okR g_17 c9 w9 (k9 + 1) k9 := okR_4 hR_14 hg_17 (by omega)
        have hP : va_P (dC, dI) vwCl [(xI m_rd cI 38 g_17), (xo_8_rrriirrriiiiiiirrirrrrri mo m_la m_sz m_it ms mt m_st m_mv m_tp (nI mz) ml (nI mpn_12) mkn_12 mvn_12 mbn_12 mw m_rd m_ac (nI ma) m_as m_wo m_ik m_ke m_tr (nI mx)), (xI m_tp cI 120 ft_)] H := hP
        have hD := dto hP hD
        refine lv_aload_n hx hb dX8_readSound_75 rfl (lv_at hl 2 rfl) ?_
        refine lv_iconst (v := 0) hx hb dX8_readSound_76 (by decide) ?_
        refine lv_aload_n hx hb dX8_readSound_77 rfl (lv_at hl 2 rfl) ?_
        refine va_get (D := (dC, dI)) (ci := 8) (v := .ref m_rd) (C := RX8) (T := TX8) (N := 24) hx hb hts i_X8_readSound_X8 hown hK hP 1 rfl rfl 15 (by decide) (hts _ mx_X8_readSound_1) (fun _ h9 => h9) rfl dX8_readSound_78 ?_
        refine lv_iconst (v := 0) hx hb dX8_readSound_81 (by decide) ?_
        refine va_iald hx hb hK hP 0 0 rfl rfl (by unfold vp_in; decide) dX8_readSound_82 ?_
        refine lv_topi (fun v_18 e_18 => ?_)
        obtain rfl : v_18 = (nI c9) := (e_18).trans hR_17.1
        refine lv_iconst (v := 1) hx hb dX8_readSound_83 (by decide) ?_
        refine lv_isub hx hb dX8_readSound_84 ?_
        refine lv_topi (fun v_19 e_19 => ?_)
        refine lv_bipush (v := 20) hx hb dX8_readSound_85 (by decide) ?_
        refine lv_iload_n hx hb dX8_readSound_87 rfl (lv_at hl 1 rfl) ?_
        refine lv_iadd hx hb dX8_readSound_88 ?_
        refine lv_topi (fun v_20 e_20 => ?_)
        obtain rfl : v_20 = (nI (20 + k9)) := (e_20).trans (nI_add 20 k9)
        refine lv_bipush (v := 44) hx hb dX8_readSound_89 (by decide) ?_
        have hc_21 := cutW (wc := [(xo_8_rrriirrriiiiiiirrirrrrri mo m_la m_sz m_it ms mt m_st m_mv m_tp (nI mz) ml (nI mpn_12) mkn_12 mvn_12 mbn_12 mw m_rd m_ac (nI ma) m_as m_wo m_ik m_ke m_tr (nI mx)), (xI m_tp cI 120 ft_), (xI m_rd cI 38 g_17)]) hP hD hS hA [1, 2, 0] (by decide +kernel) rfl
        refine va_calli (va_runV (As := [.int 0, .int v_19, .int (nI (20 + k9)), .int 44]) (rest := []) ⟨hx, hb, hml, hown, hts⟩ (r_X8_takesNumber l dC dI cI cZ cL cJ H.size mo m_la m_sz m_it m_st m_mv m_tp m_rd m_ac m_as m_wo m_ik m_ke m_tr ms mt ml mkn_12 mvn_12 mbn_12 mw mz mpn_12 ma mx ft_ g_17 0 v_19 (20 + k9) 44 (by omega) (hmz) (by omega)) (cwV 4 hts gX8_readSound_X8_takesNumber rfl rfl rfl (by decide +kernel) ⟨Nat.le_of_ble_eq_true rfl, Nat.le_of_ble_eq_true rfl⟩) (pvW 8 1 hK hP rfl rfl hc_21) rfl rfl hl.1 rfl (lv_room (Nat.le_of_ble_eq_true rfl)) dX8_readSound_91 ⟨Nat.le_of_ble_eq_true rfl, Nat.le_of_ble_eq_true rfl⟩) hS (fun q _ h => hc_21.2.2 q h) hc_21.2.2 (fun r_21 u_21 t_21 H1 locs ht hvm h_21 hB hz1 hk1 hS => ?_)
        refine xl_6_7 hB (fun mkn_21 mvn_21 mbn_21 mpn_21 mwn_21 frn_21 hP1 hD1 hF_21_0 hF_21_1 hF_21_2 hF_21_3 hF_21_4 => ?_)
        clear hB
        rw [ht] at hP1
        obtain ⟨hu_21, h_21⟩ := h_21
        subst hu_21
        obtain ⟨hP, hD⟩ := va_join (wr := []) (w1 := [(xo_8_rrriirrriiiiiiirrirrrrri mo m_la m_sz m_it ms mt m_st m_mv m_tp (nI mz) ml (nI mpn_21) mkn_21 mvn_21 mbn_21 mwn_21 m_rd m_ac (nI ma) m_as m_wo m_ik m_ke m_tr (nI mx)), (xI m_tp cI 120 ft_), (xI m_rd cI 38 frn_21)]) hP hD [1, 2, 0] [] rfl rfl (by decide +kernel) (by decide +kernel) hk1 hc_21.2.2 hP1 hD1
        generalize H1 = H at hP hS ⊢
        have hP : va_P (dC, dI) vwCl [(xo_8_rrriirrriiiiiiirrirrrrri mo m_la m_sz m_it ms mt m_st m_mv m_tp (nI mz) ml (nI mpn_21) mkn_21 mvn_21 mbn_21 mwn_21 m_rd m_ac (nI ma) m_as m_wo m_ik m_ke m_tr (nI mx)), (xI m_tp cI 120 ft_), (xI m_rd cI 38 frn_21)] H := hP
        have hD := dto hP hD
        rcases h_21 with ⟨h_21, f_21_0_0⟩ | ⟨h_21, f_21_1_0⟩
        · subst h_21
          refine lv_if_eq (tgt := 117) hx hb dX8_readSound_94 (by decide) (fun _ => ?_) (fun c_ => absurd (by decide) c_)
          refine lv_iconst (v := 0) hx hb dX8_readSound_117 (by decide) ?_
          have hX9 := cut2 (wc := [(xo_8_rrriirrriiiiiiirrirrrrri mo m_la m_sz m_it ms mt m_st m_mv m_tp (nI mz) ml (nI mpn_21) mkn_21 mvn_21 mbn_21 mwn_21 m_rd m_ac (nI ma) m_as m_wo m_ik m_ke m_tr (nI mx)), (xI m_tp cI 120 ft_), (xI m_rd cI 38 frn_21)]) hP hD [0, 1, 2] (by decide +kernel) rfl
          exact W.zret (v := 0) hx hb hr (by decide) (fun t ht hW => ⟨⟨0, 0, rfl, ⟨rfl, Or.inl (⟨rfl, (lf_X8_readSound_12 hmp hmz hR c_2 h_6 c_7 c_11 hF_12_0 hF_12_1 hu_14 hu_17 e_19 hF_21_0 hF_21_2 hF_21_3 hF_21_4 f_21_0_0)⟩)⟩, ⟨mkn_21, mvn_21, mbn_21, mpn_21, mwn_21, frn_21, va_Ht ht hX9.1, hX9.2, (by omega), (fun h_ => absurd h_ (by decide)), (lf_X8_readSound_10 hmp hmz hR c_2 h_6 c_7 c_11 hF_12_0 hF_12_1 hu_14 hu_17 e_19 hF_21_0 hF_21_2 hF_21_3 hF_21_4 f_21_0_0), (lf_X8_readSound_11 hmp hmz hR c_2 h_6 c_7 c_11 hF_12_0 hF_12_1 hu_14 hu_17 e_19 hF_21_0 hF_21_2 hF_21_3 hF_21_4 f_21_0_0)⟩⟩, hS.F ht⟩) hS.2.2 dX8_readSound_118
        · subst h_21
          obtain ⟨tv_21, te_21, tf_21⟩ := hF_21_1 rfl
          have hR_21 := okR_off hR_17 te_21 (by omega) (by omega) (by omega) (by omega) (by omega)
          refine lv_if_eq (tgt := 117) hx hb dX8_readSound_94 (by decide) (fun c_ => absurd c_ (by decide)) (fun _ => ?_)
          refine lv_aload_n hx hb dX8_readSound_97 rfl (lv_at hl 2 rfl) ?_
          refine lv_iconst (v := 1) hx hb dX8_readSound_98 (by decide) ?_
          refine lv_bipush (v := 20) hx hb dX8_readSound_99 (by decide) ?_
          refine lv_bipush (v := 32) hx hb dX8_readSound_101 (by decide) ?_
          refine lv_iload_n hx hb dX8_readSound_103 rfl (lv_at hl 1 rfl) ?_
          refine lv_iadd hx hb dX8_readSound_104 ?_
          refine lv_topi (fun v_24 e_24 => ?_)
          obtain rfl : v_24 = (nI (32 + k9)) := (e_24).trans (nI_add 32 k9)
          refine lv_bipush (v := 59) hx hb dX8_readSound_105 (by decide) ?_
          have hc_25 := cutW (wc := [(xo_8_rrriirrriiiiiiirrirrrrri mo m_la m_sz m_it ms mt m_st m_mv m_tp (nI mz) ml (nI mpn_21) mkn_21 mvn_21 mbn_21 mwn_21 m_rd m_ac (nI ma) m_as m_wo m_ik m_ke m_tr (nI mx)), (xI m_tp cI 120 ft_), (xI m_rd cI 38 frn_21)]) hP hD hS hA [0, 1, 2] (by decide +kernel) rfl
          refine va_calli (va_runV (As := [.int 1, .int 20, .int (nI (32 + k9)), .int 59]) (rest := []) ⟨hx, hb, hml, hown, hts⟩ (r_X8_takesNumber l dC dI cI cZ cL cJ H.size mo m_la m_sz m_it m_st m_mv m_tp m_rd m_ac m_as m_wo m_ik m_ke m_tr ms mt ml mkn_21 mvn_21 mbn_21 mwn_21 mz mpn_21 ma mx ft_ frn_21 1 20 (32 + k9) 59 (by omega) (hmz) (by omega)) (cwV 4 hts gX8_readSound_X8_takesNumber rfl rfl rfl (by decide +kernel) ⟨Nat.le_of_ble_eq_true rfl, Nat.le_of_ble_eq_true rfl⟩) (pvW 8 0 hK hP rfl rfl hc_25) rfl rfl hl.1 rfl (lv_room (Nat.le_of_ble_eq_true rfl)) dX8_readSound_107 ⟨Nat.le_of_ble_eq_true rfl, Nat.le_of_ble_eq_true rfl⟩) hS (fun q _ h => hc_25.2.2 q h) hc_25.2.2 (fun r_25 u_25 t_25 H1 locs ht hvm h_25 hB hz1 hk1 hS => ?_)
          refine xl_6_7 hB (fun mkn_25 mvn_25 mbn_25 mpn_25 mwn_25 frn_25 hP1 hD1 hF_25_0 hF_25_1 hF_25_2 hF_25_3 hF_25_4 => ?_)
          clear hB
          rw [ht] at hP1
          obtain ⟨hu_25, h_25⟩ := h_25
          subst hu_25
          obtain ⟨hP, hD⟩ := va_join (wr := []) (w1 := [(xo_8_rrriirrriiiiiiirrirrrrri mo m_la m_sz m_it ms mt m_st m_mv m_tp (nI mz) ml (nI mpn_25) mkn_25 mvn_25 mbn_25 mwn_25 m_rd m_ac (nI ma) m_as m_wo m_ik m_ke m_tr (nI mx)), (xI m_tp cI 120 ft_), (xI m_rd cI 38 frn_25)]) hP hD [0, 1, 2] [] rfl rfl (by decide +kernel) (by decide +kernel) hk1 hc_25.2.2 hP1 hD1
          generalize H1 = H at hP hS ⊢
          have hP : va_P (dC, dI) vwCl [(xo_8_rrriirrriiiiiiirrirrrrri mo m_la m_sz m_it ms mt m_st m_mv m_tp (nI mz) ml (nI mpn_25) mkn_25 mvn_25 mbn_25 mwn_25 m_rd m_ac (nI ma) m_as m_wo m_ik m_ke m_tr (nI mx)), (xI m_tp cI 120 ft_), (xI m_rd cI 38 frn_25)] H := hP
          have hD := dto hP hD
          rcases h_25 with ⟨h_25, f_25_0_0⟩ | ⟨h_25, f_25_1_0⟩
          · subst h_25
            refine lv_if_eq (tgt := 117) hx hb dX8_readSound_110 (by decide) (fun _ => ?_) (fun c_ => absurd (by decide) c_)
            refine lv_iconst (v := 0) hx hb dX8_readSound_117 (by decide) ?_
            have hX9 := cut2 (wc := [(xo_8_rrriirrriiiiiiirrirrrrri mo m_la m_sz m_it ms mt m_st m_mv m_tp (nI mz) ml (nI mpn_25) mkn_25 mvn_25 mbn_25 mwn_25 m_rd m_ac (nI ma) m_as m_wo m_ik m_ke m_tr (nI mx)), (xI m_tp cI 120 ft_), (xI m_rd cI 38 frn_25)]) hP hD [0, 1, 2] (by decide +kernel) rfl
            exact W.zret (v := 0) hx hb hr (by decide) (fun t ht hW => ⟨⟨0, 0, rfl, ⟨rfl, Or.inl (⟨rfl, (lf_X8_readSound_15 hmp hmz hR c_2 h_6 c_7 c_11 hF_12_0 hF_12_1 hu_14 hu_17 e_19 hF_21_0 hF_21_2 hF_21_3 hF_21_4 f_21_1_0 hR_21 hF_25_0 hF_25_2 hF_25_3 hF_25_4 f_25_0_0)⟩)⟩, ⟨mkn_25, mvn_25, mbn_25, mpn_25, mwn_25, frn_25, va_Ht ht hX9.1, hX9.2, (by omega), (fun h_ => absurd h_ (by decide)), (lf_X8_readSound_13 hmp hmz hR c_2 h_6 c_7 c_11 hF_12_0 hF_12_1 hu_14 hu_17 e_19 hF_21_0 hF_21_2 hF_21_3 hF_21_4 f_21_1_0 hR_21 hF_25_0 hF_25_2 hF_25_3 hF_25_4 f_25_0_0), (lf_X8_readSound_14 hmp hmz hR c_2 h_6 c_7 c_11 hF_12_0 hF_12_1 hu_14 hu_17 e_19 hF_21_0 hF_21_2 hF_21_3 hF_21_4 f_21_1_0 hR_21 hF_25_0 hF_25_2 hF_25_3 hF_25_4 f_25_0_0)⟩⟩, hS.F ht⟩) hS.2.2 dX8_readSound_118
          · subst h_25
            obtain ⟨tv_25, te_25, tf_25⟩ := hF_25_1 rfl
            have hR_25 := okR_L hR_21 te_25 tf_25
            refine lv_if_eq (tgt := 117) hx hb dX8_readSound_110 (by decide) (fun c_ => absurd c_ (by decide)) (fun _ => ?_)
            refine lv_iconst (v := 1) hx hb dX8_readSound_113 (by decide) ?_
            refine lv_goto (tgt := 118) hx hb dX8_readSound_114 (by decide) ?_
            have hX9 := cut2 (wc := [(xo_8_rrriirrriiiiiiirrirrrrri mo m_la m_sz m_it ms mt m_st m_mv m_tp (nI mz) ml (nI mpn_25) mkn_25 mvn_25 mbn_25 mwn_25 m_rd m_ac (nI ma) m_as m_wo m_ik m_ke m_tr (nI mx)), (xI m_tp cI 120 ft_), (xI m_rd cI 38 frn_25)]) hP hD [0, 1, 2] (by decide +kernel) rfl
            exact W.zret (v := 1) hx hb hr (by decide) (fun t ht hW => ⟨⟨1, 1, rfl, ⟨rfl, Or.inr (⟨rfl, (lf_X8_readSound_18 hmp hmz hR c_2 h_6 c_7 c_11 hF_12_0 hF_12_1 hu_14 hu_17 e_19 hF_21_0 hF_21_2 hF_21_3 hF_21_4 f_21_1_0 hR_21 hF_25_0 hF_25_2 hF_25_3 hF_25_4 f_25_1_0 hR_25)⟩)⟩, ⟨mkn_25, mvn_25, mbn_25, mpn_25, mwn_25, frn_25, va_Ht ht hX9.1, hX9.2, (by omega), (fun _ => ⟨hR_25, by omega⟩), (lf_X8_readSound_16 hmp hmz hR c_2 h_6 c_7 c_11 hF_12_0 hF_12_1 hu_14 hu_17 e_19 hF_21_0 hF_21_2 hF_21_3 hF_21_4 f_21_1_0 hR_21 hF_25_0 hF_25_2 hF_25_3 hF_25_4 f_25_1_0 hR_25), (lf_X8_readSound_17 hmp hmz hR c_2 h_6 c_7 c_11 hF_12_0 hF_12_1 hu_14 hu_17 e_19 hF_21_0 hF_21_2 hF_21_3 hF_21_4 f_21_1_0 hR_21 hF_25_0 hF_25_2 hF_25_3 hF_25_4 f_25_1_0 hR_25)⟩⟩, hS.F ht⟩) hS.2.2 dX8_readSound_118
      · have c_11 : k9 = 6 := (nI_eq (a := k9) (b := 6) (by omega) (by omega)).mp c_11
        refine lv_aload_n hx hb dX8_readSound_37 rfl (lv_at hl 2 rfl) ?_
        refine lv_iload_n hx hb dX8_readSound_38 rfl (lv_at hl 0 rfl) ?_
        refine lv_if_ne (tgt := 46) hx hb dX8_readSound_39 (by decide) (fun c_28 => ?_) (fun c_28 => ?_)
        · skip
          refine lv_iconst (v := 3) hx hb dX8_readSound_46 (by decide) ?_
          have hc_29 := cutW (wc := [(xo_8_rrriirrriiiiiiirrirrrrri mo m_la m_sz m_it ms mt m_st m_mv m_tp (nI mz) ml (nI mp) mk mv mb mw m_rd m_ac (nI ma) m_as m_wo m_ik m_ke m_tr (nI mx))]) hP hD hS hA [0] (by decide +kernel) rfl
          refine va_calli (va_runV (As := [.int 3]) (rest := []) ⟨hx, hb, hml, hown, hts⟩ (r_X8_faults l dC dI cI cZ cL cJ s.heap.size mo m_la m_sz m_it m_st m_mv m_tp m_rd m_ac m_as m_wo m_ik m_ke m_tr ms mt ml mk mv mb mw mz mp ma mx 3 ) (cwV 1 hts gX8_readSound_X8_faults rfl rfl rfl (by decide +kernel) ⟨Nat.le_of_ble_eq_true rfl, Nat.le_of_ble_eq_true rfl⟩) (pvW 8 0 hK hP rfl rfl hc_29) rfl rfl hl.1 rfl (lv_room (Nat.le_of_ble_eq_true rfl)) dX8_readSound_47 ⟨Nat.le_of_ble_eq_true rfl, Nat.le_of_ble_eq_true rfl⟩) hS (fun q _ h => hc_29.2.2 q h) hc_29.2.2 (fun r_29 u_29 t_29 H1 locs ht hvm h_29 hB hz1 hk1 hS => ?_)
          refine xl_1_3 hB (fun mwn_29 hP1 hD1 hF_29_0 => ?_)
          clear hB
          rw [ht] at hP1
          obtain ⟨hP, hD⟩ := va_join (wr := [(xI m_tp cI 120 ft_), (xI m_rd cI 38 fr)]) (w1 := [(xo_8_rrriirrriiiiiiirrirrrrri mo m_la m_sz m_it ms mt m_st m_mv m_tp (nI mz) ml (nI mp) mk mv mb mwn_29 m_rd m_ac (nI ma) m_as m_wo m_ik m_ke m_tr (nI mx))]) hP hD [0] [1, 2] rfl rfl (by decide +kernel) (by decide +kernel) hk1 hc_29.2.2 hP1 hD1
          generalize H1 = H at hP hS ⊢
          have hP : va_P (dC, dI) vwCl [(xI m_tp cI 120 ft_), (xI m_rd cI 38 fr), (xo_8_rrriirrriiiiiiirrirrrrri mo m_la m_sz m_it ms mt m_st m_mv m_tp (nI mz) ml (nI mp) mk mv mb mwn_29 m_rd m_ac (nI ma) m_as m_wo m_ik m_ke m_tr (nI mx))] H := hP
          have hD := dto hP hD
          subst h_29
          have hX9 := cut2 (wc := [(xo_8_rrriirrriiiiiiirrirrrrri mo m_la m_sz m_it ms mt m_st m_mv m_tp (nI mz) ml (nI mp) mk mv mb mwn_29 m_rd m_ac (nI ma) m_as m_wo m_ik m_ke m_tr (nI mx)), (xI m_tp cI 120 ft_), (xI m_rd cI 38 fr)]) hP hD [2, 0, 1] (by decide +kernel) rfl
          exact W.zret (v := 0) hx hb hr (by decide) (fun t ht hW => ⟨⟨0, 0, rfl, ⟨rfl, Or.inl (⟨rfl, (lf_X8_readSound_21 hmp hmz hR c_2 h_6 c_7 c_11 c_28 hF_29_0)⟩)⟩, ⟨mk, mv, mb, mp, mwn_29, fr, va_Ht ht hX9.1, hX9.2, (by omega), (fun h_ => absurd h_ (by decide)), (lf_X8_readSound_19 hmp hmz hR c_2 h_6 c_7 c_11 c_28 hF_29_0), (lf_X8_readSound_20 hmp hmz hR c_2 h_6 c_7 c_11 c_28 hF_29_0)⟩⟩, hS.F ht⟩) hS.2.2 dX8_readSound_50
        · skip
          refine lv_iconst (v := 1) hx hb dX8_readSound_42 (by decide) ?_
          refine lv_goto (tgt := 47) hx hb dX8_readSound_43 (by decide) ?_
          have hc_30 := cutW (wc := [(xo_8_rrriirrriiiiiiirrirrrrri mo m_la m_sz m_it ms mt m_st m_mv m_tp (nI mz) ml (nI mp) mk mv mb mw m_rd m_ac (nI ma) m_as m_wo m_ik m_ke m_tr (nI mx))]) hP hD hS hA [0] (by decide +kernel) rfl
          refine va_calli (va_runV (As := [.int 1]) (rest := []) ⟨hx, hb, hml, hown, hts⟩ (r_X8_faults l dC dI cI cZ cL cJ s.heap.size mo m_la m_sz m_it m_st m_mv m_tp m_rd m_ac m_as m_wo m_ik m_ke m_tr ms mt ml mk mv mb mw mz mp ma mx 1 ) (cwV 1 hts gX8_readSound_X8_faults rfl rfl rfl (by decide +kernel) ⟨Nat.le_of_ble_eq_true rfl, Nat.le_of_ble_eq_true rfl⟩) (pvW 8 0 hK hP rfl rfl hc_30) rfl rfl hl.1 rfl (lv_room (Nat.le_of_ble_eq_true rfl)) dX8_readSound_47 ⟨Nat.le_of_ble_eq_true rfl, Nat.le_of_ble_eq_true rfl⟩) hS (fun q _ h => hc_30.2.2 q h) hc_30.2.2 (fun r_30 u_30 t_30 H1 locs ht hvm h_30 hB hz1 hk1 hS => ?_)
          refine xl_1_3 hB (fun mwn_30 hP1 hD1 hF_30_0 => ?_)
          clear hB
          rw [ht] at hP1
          obtain ⟨hP, hD⟩ := va_join (wr := [(xI m_tp cI 120 ft_), (xI m_rd cI 38 fr)]) (w1 := [(xo_8_rrriirrriiiiiiirrirrrrri mo m_la m_sz m_it ms mt m_st m_mv m_tp (nI mz) ml (nI mp) mk mv mb mwn_30 m_rd m_ac (nI ma) m_as m_wo m_ik m_ke m_tr (nI mx))]) hP hD [0] [1, 2] rfl rfl (by decide +kernel) (by decide +kernel) hk1 hc_30.2.2 hP1 hD1
          generalize H1 = H at hP hS ⊢
          have hP : va_P (dC, dI) vwCl [(xI m_tp cI 120 ft_), (xI m_rd cI 38 fr), (xo_8_rrriirrriiiiiiirrirrrrri mo m_la m_sz m_it ms mt m_st m_mv m_tp (nI mz) ml (nI mp) mk mv mb mwn_30 m_rd m_ac (nI ma) m_as m_wo m_ik m_ke m_tr (nI mx))] H := hP
          have hD := dto hP hD
          subst h_30
          have hX9 := cut2 (wc := [(xo_8_rrriirrriiiiiiirrirrrrri mo m_la m_sz m_it ms mt m_st m_mv m_tp (nI mz) ml (nI mp) mk mv mb mwn_30 m_rd m_ac (nI ma) m_as m_wo m_ik m_ke m_tr (nI mx)), (xI m_tp cI 120 ft_), (xI m_rd cI 38 fr)]) hP hD [2, 0, 1] (by decide +kernel) rfl
          exact W.zret (v := 0) hx hb hr (by decide) (fun t ht hW => ⟨⟨0, 0, rfl, ⟨rfl, Or.inl (⟨rfl, (lf_X8_readSound_24 hmp hmz hR c_2 h_6 c_7 c_11 c_28 hF_30_0)⟩)⟩, ⟨mk, mv, mb, mp, mwn_30, fr, va_Ht ht hX9.1, hX9.2, (by omega), (fun h_ => absurd h_ (by decide)), (lf_X8_readSound_22 hmp hmz hR c_2 h_6 c_7 c_11 c_28 hF_30_0), (lf_X8_readSound_23 hmp hmz hR c_2 h_6 c_7 c_11 c_28 hF_30_0)⟩⟩, hS.F ht⟩) hS.2.2 dX8_readSound_50
theorem lf_X8_readLevel_1 {mz : Nat} {w_3 : Nat → Int32} {g_10 : Nat → Int32} (hmz : mz ≤ 120) (haf_0 : (∀ j : Nat, j < 38 → w_3 j = 0)) (hu_10 : g_10 = upd w_3 6 1) : m38 g_10 = r0 := by
  subst_vars; exact r0_m38 haf_0
theorem lf_X8_readLevel_2 {mz : Nat} {ft_ : Nat → Int32} {w_3 : Nat → Int32} {g_10 : Nat → Int32} {mkn_11 : Int32} {mvn_11 : Int32} {mbn_11 : Int32} {mpn_11 : Nat} {mkn_12 : Int32} {mvn_12 : Int32} {mbn_12 : Int32} {mpn_12 : Nat} {mwn_12 : Int32} (hmz : mz ≤ 120) (haf_0 : (∀ j : Nat, j < 38 → w_3 j = 0)) (hu_10 : g_10 = upd w_3 6 1) (Lr : m38 g_10 = r0) (hF_11_0 : mpn_11 ≤ mz) (hF_11_1 : nT ft_ mz 0 = (mkn_11, mvn_11, mbn_11, mpn_11)) (hF_12_0 : mpn_12 ≤ mz) (hF_12_1 : kU ft_ mz 109 (mkn_11, mvn_11, mbn_11, mpn_11) = (mkn_12, mvn_12, mbn_12, mpn_12)) (hF_12_2 : (¬ kG 109 (mkn_11, mvn_11, mbn_11, mpn_11) → mwn_12 = 1)) (f_12_0_0 : ¬ kG 109 (mkn_11, mvn_11, mbn_11, mpn_11)) : rR ft_ mz = (((mkn_12, mvn_12, mbn_12, mpn_12), m38 g_10), 1) := by
  have h9 : lRa ft_ mz = (((mkn_12, mvn_12, mbn_12, mpn_12), m38 g_10), 1) := (by simp only [lRa, kR]; grind)
  exact rR_a h9 (by decide)
theorem lf_X8_readLevel_3 {mz : Nat} {ft_ : Nat → Int32} {w_3 : Nat → Int32} {g_10 : Nat → Int32} {mkn_11 : Int32} {mvn_11 : Int32} {mbn_11 : Int32} {mpn_11 : Nat} {mkn_12 : Int32} {mvn_12 : Int32} {mbn_12 : Int32} {mpn_12 : Nat} {mwn_12 : Int32} (hmz : mz ≤ 120) (haf_0 : (∀ j : Nat, j < 38 → w_3 j = 0)) (hu_10 : g_10 = upd w_3 6 1) (Lr : m38 g_10 = r0) (hF_11_0 : mpn_11 ≤ mz) (hF_11_1 : nT ft_ mz 0 = (mkn_11, mvn_11, mbn_11, mpn_11)) (hF_12_0 : mpn_12 ≤ mz) (hF_12_1 : kU ft_ mz 109 (mkn_11, mvn_11, mbn_11, mpn_11) = (mkn_12, mvn_12, mbn_12, mpn_12)) (hF_12_2 : (¬ kG 109 (mkn_11, mvn_11, mbn_11, mpn_11) → mwn_12 = 1)) (f_12_0_0 : ¬ kG 109 (mkn_11, mvn_11, mbn_11, mpn_11)) (Lx : rR ft_ mz = (((mkn_12, mvn_12, mbn_12, mpn_12), m38 g_10), 1)) (Ln : ¬ (1 : Int32) = 0) : (rR ft_ mz).1 = ((mkn_12, mvn_12, mbn_12, mpn_12), m38 g_10) := by
  first
  | (rw [Lx]; exact Ln)
  | (rw [Lx]; done)
  | (intro q_; rw [Lx]; grind)
  | grind
theorem lf_X8_readLevel_4 {mz : Nat} {ft_ : Nat → Int32} {w_3 : Nat → Int32} {g_10 : Nat → Int32} {mkn_11 : Int32} {mvn_11 : Int32} {mbn_11 : Int32} {mpn_11 : Nat} {mkn_12 : Int32} {mvn_12 : Int32} {mbn_12 : Int32} {mpn_12 : Nat} {mwn_12 : Int32} (hmz : mz ≤ 120) (haf_0 : (∀ j : Nat, j < 38 → w_3 j = 0)) (hu_10 : g_10 = upd w_3 6 1) (Lr : m38 g_10 = r0) (hF_11_0 : mpn_11 ≤ mz) (hF_11_1 : nT ft_ mz 0 = (mkn_11, mvn_11, mbn_11, mpn_11)) (hF_12_0 : mpn_12 ≤ mz) (hF_12_1 : kU ft_ mz 109 (mkn_11, mvn_11, mbn_11, mpn_11) = (mkn_12, mvn_12, mbn_12, mpn_12)) (hF_12_2 : (¬ kG 109 (mkn_11, mvn_11, mbn_11, mpn_11) → mwn_12 = 1)) (f_12_0_0 : ¬ kG 109 (mkn_11, mvn_11, mbn_11, mpn_11)) (Lx : rR ft_ mz = (((mkn_12, mvn_12, mbn_12, mpn_12), m38 g_10), 1)) (Ln : ¬ (1 : Int32) = 0) : (¬ (rR ft_ mz).2 = 0 → mwn_12 = (rR ft_ mz).2) := by
  first
  | (rw [Lx]; exact Ln)
  | (rw [Lx]; done)
  | (intro q_; rw [Lx]; grind)
  | grind
theorem lf_X8_readLevel_5 {mz : Nat} {ft_ : Nat → Int32} {w_3 : Nat → Int32} {g_10 : Nat → Int32} {mkn_11 : Int32} {mvn_11 : Int32} {mbn_11 : Int32} {mpn_11 : Nat} {mkn_12 : Int32} {mvn_12 : Int32} {mbn_12 : Int32} {mpn_12 : Nat} {mwn_12 : Int32} (hmz : mz ≤ 120) (haf_0 : (∀ j : Nat, j < 38 → w_3 j = 0)) (hu_10 : g_10 = upd w_3 6 1) (Lr : m38 g_10 = r0) (hF_11_0 : mpn_11 ≤ mz) (hF_11_1 : nT ft_ mz 0 = (mkn_11, mvn_11, mbn_11, mpn_11)) (hF_12_0 : mpn_12 ≤ mz) (hF_12_1 : kU ft_ mz 109 (mkn_11, mvn_11, mbn_11, mpn_11) = (mkn_12, mvn_12, mbn_12, mpn_12)) (hF_12_2 : (¬ kG 109 (mkn_11, mvn_11, mbn_11, mpn_11) → mwn_12 = 1)) (f_12_0_0 : ¬ kG 109 (mkn_11, mvn_11, mbn_11, mpn_11)) (Lx : rR ft_ mz = (((mkn_12, mvn_12, mbn_12, mpn_12), m38 g_10), 1)) (Ln : ¬ (1 : Int32) = 0) : ¬ (rR ft_ mz).2 = 0 := by
  first
  | (rw [Lx]; exact Ln)
  | (rw [Lx]; done)
  | (intro q_; rw [Lx]; grind)
  | grind
theorem lf_X8_readLevel_6 {mz : Nat} {ft_ : Nat → Int32} {w_3 : Nat → Int32} {g_10 : Nat → Int32} {mkn_11 : Int32} {mvn_11 : Int32} {mbn_11 : Int32} {mpn_11 : Nat} {mkn_12 : Int32} {mvn_12 : Int32} {mbn_12 : Int32} {mpn_12 : Nat} {mwn_12 : Int32} (hmz : mz ≤ 120) (haf_0 : (∀ j : Nat, j < 38 → w_3 j = 0)) (hu_10 : g_10 = upd w_3 6 1) (Lr : m38 g_10 = r0) (hF_11_0 : mpn_11 ≤ mz) (hF_11_1 : nT ft_ mz 0 = (mkn_11, mvn_11, mbn_11, mpn_11)) (hF_12_0 : mpn_12 ≤ mz) (hF_12_1 : kU ft_ mz 109 (mkn_11, mvn_11, mbn_11, mpn_11) = (mkn_12, mvn_12, mbn_12, mpn_12)) (hF_12_2 : (¬ kG 109 (mkn_11, mvn_11, mbn_11, mpn_11) → mwn_12 = 1)) (f_12_1_0 : kG 109 (mkn_11, mvn_11, mbn_11, mpn_11)) : lRa ft_ mz = (((mkn_12, mvn_12, mbn_12, mpn_12), m38 g_10), 0) := by
  simp only [lRa, kR]; grind
theorem lf_X8_readLevel_7 {mz : Nat} {ft_ : Nat → Int32} {w_3 : Nat → Int32} {g_10 : Nat → Int32} {mkn_11 : Int32} {mvn_11 : Int32} {mbn_11 : Int32} {mpn_11 : Nat} {mkn_12 : Int32} {mvn_12 : Int32} {mbn_12 : Int32} {mpn_12 : Nat} {mwn_12 : Int32} {mkn_15 : Int32} {mvn_15 : Int32} {mbn_15 : Int32} {mpn_15 : Nat} {mwn_15 : Int32} {frn_15 : Nat → Int32} (hmz : mz ≤ 120) (haf_0 : (∀ j : Nat, j < 38 → w_3 j = 0)) (hu_10 : g_10 = upd w_3 6 1) (Lr : m38 g_10 = r0) (hF_11_0 : mpn_11 ≤ mz) (hF_11_1 : nT ft_ mz 0 = (mkn_11, mvn_11, mbn_11, mpn_11)) (hF_12_0 : mpn_12 ≤ mz) (hF_12_1 : kU ft_ mz 109 (mkn_11, mvn_11, mbn_11, mpn_11) = (mkn_12, mvn_12, mbn_12, mpn_12)) (hF_12_2 : (¬ kG 109 (mkn_11, mvn_11, mbn_11, mpn_11) → mwn_12 = 1)) (f_12_1_0 : kG 109 (mkn_11, mvn_11, mbn_11, mpn_11)) (La : lRa ft_ mz = (((mkn_12, mvn_12, mbn_12, mpn_12), m38 g_10), 0)) (hF_15_0 : mpn_15 ≤ mz) (hF_15_2 : nU ft_ mz 5 15 44 (mkn_12, mvn_12, mbn_12, mpn_12) = (mkn_15, mvn_15, mbn_15, mpn_15)) (hF_15_3 : m38 frn_15 = nR 5 15 0 (mkn_12, mvn_12, mbn_12, mpn_12) (m38 g_10)) (hF_15_4 : (¬ nGG ft_ mz 5 15 44 (mkn_12, mvn_12, mbn_12, mpn_12) → mwn_15 = nE 5 15 (mkn_12, mvn_12, mbn_12, mpn_12))) (f_15_0_0 : ¬ nGG ft_ mz 5 15 44 (mkn_12, mvn_12, mbn_12, mpn_12)) : rR ft_ mz = (((mkn_15, mvn_15, mbn_15, mpn_15), m38 frn_15), nE 5 15 (mkn_12, mvn_12, mbn_12, mpn_12)) := by
  have h9 : lRb ft_ mz = (((mkn_15, mvn_15, mbn_15, mpn_15), m38 frn_15), nE 5 15 (mkn_12, mvn_12, mbn_12, mpn_12)) := (by simp only [lRb, La, mB, nRr]; grind)
  exact rR_b h9 (nE_nz _ _ _)
theorem lf_X8_readLevel_8 {mz : Nat} {ft_ : Nat → Int32} {w_3 : Nat → Int32} {g_10 : Nat → Int32} {mkn_11 : Int32} {mvn_11 : Int32} {mbn_11 : Int32} {mpn_11 : Nat} {mkn_12 : Int32} {mvn_12 : Int32} {mbn_12 : Int32} {mpn_12 : Nat} {mwn_12 : Int32} {mkn_15 : Int32} {mvn_15 : Int32} {mbn_15 : Int32} {mpn_15 : Nat} {mwn_15 : Int32} {frn_15 : Nat → Int32} (hmz : mz ≤ 120) (haf_0 : (∀ j : Nat, j < 38 → w_3 j = 0)) (hu_10 : g_10 = upd w_3 6 1) (Lr : m38 g_10 = r0) (hF_11_0 : mpn_11 ≤ mz) (hF_11_1 : nT ft_ mz 0 = (mkn_11, mvn_11, mbn_11, mpn_11)) (hF_12_0 : mpn_12 ≤ mz) (hF_12_1 : kU ft_ mz 109 (mkn_11, mvn_11, mbn_11, mpn_11) = (mkn_12, mvn_12, mbn_12, mpn_12)) (hF_12_2 : (¬ kG 109 (mkn_11, mvn_11, mbn_11, mpn_11) → mwn_12 = 1)) (f_12_1_0 : kG 109 (mkn_11, mvn_11, mbn_11, mpn_11)) (La : lRa ft_ mz = (((mkn_12, mvn_12, mbn_12, mpn_12), m38 g_10), 0)) (hF_15_0 : mpn_15 ≤ mz) (hF_15_2 : nU ft_ mz 5 15 44 (mkn_12, mvn_12, mbn_12, mpn_12) = (mkn_15, mvn_15, mbn_15, mpn_15)) (hF_15_3 : m38 frn_15 = nR 5 15 0 (mkn_12, mvn_12, mbn_12, mpn_12) (m38 g_10)) (hF_15_4 : (¬ nGG ft_ mz 5 15 44 (mkn_12, mvn_12, mbn_12, mpn_12) → mwn_15 = nE 5 15 (mkn_12, mvn_12, mbn_12, mpn_12))) (f_15_0_0 : ¬ nGG ft_ mz 5 15 44 (mkn_12, mvn_12, mbn_12, mpn_12)) (Lx : rR ft_ mz = (((mkn_15, mvn_15, mbn_15, mpn_15), m38 frn_15), nE 5 15 (mkn_12, mvn_12, mbn_12, mpn_12))) (Ln : ¬ nE 5 15 (mkn_12, mvn_12, mbn_12, mpn_12) = 0) : (rR ft_ mz).1 = ((mkn_15, mvn_15, mbn_15, mpn_15), m38 frn_15) := by
  first
  | (rw [Lx]; exact Ln)
  | (rw [Lx]; done)
  | (intro q_; rw [Lx]; grind)
  | grind
theorem lf_X8_readLevel_9 {mz : Nat} {ft_ : Nat → Int32} {w_3 : Nat → Int32} {g_10 : Nat → Int32} {mkn_11 : Int32} {mvn_11 : Int32} {mbn_11 : Int32} {mpn_11 : Nat} {mkn_12 : Int32} {mvn_12 : Int32} {mbn_12 : Int32} {mpn_12 : Nat} {mwn_12 : Int32} {mkn_15 : Int32} {mvn_15 : Int32} {mbn_15 : Int32} {mpn_15 : Nat} {mwn_15 : Int32} {frn_15 : Nat → Int32} (hmz : mz ≤ 120) (haf_0 : (∀ j : Nat, j < 38 → w_3 j = 0)) (hu_10 : g_10 = upd w_3 6 1) (Lr : m38 g_10 = r0) (hF_11_0 : mpn_11 ≤ mz) (hF_11_1 : nT ft_ mz 0 = (mkn_11, mvn_11, mbn_11, mpn_11)) (hF_12_0 : mpn_12 ≤ mz) (hF_12_1 : kU ft_ mz 109 (mkn_11, mvn_11, mbn_11, mpn_11) = (mkn_12, mvn_12, mbn_12, mpn_12)) (hF_12_2 : (¬ kG 109 (mkn_11, mvn_11, mbn_11, mpn_11) → mwn_12 = 1)) (f_12_1_0 : kG 109 (mkn_11, mvn_11, mbn_11, mpn_11)) (La : lRa ft_ mz = (((mkn_12, mvn_12, mbn_12, mpn_12), m38 g_10), 0)) (hF_15_0 : mpn_15 ≤ mz) (hF_15_2 : nU ft_ mz 5 15 44 (mkn_12, mvn_12, mbn_12, mpn_12) = (mkn_15, mvn_15, mbn_15, mpn_15)) (hF_15_3 : m38 frn_15 = nR 5 15 0 (mkn_12, mvn_12, mbn_12, mpn_12) (m38 g_10)) (hF_15_4 : (¬ nGG ft_ mz 5 15 44 (mkn_12, mvn_12, mbn_12, mpn_12) → mwn_15 = nE 5 15 (mkn_12, mvn_12, mbn_12, mpn_12))) (f_15_0_0 : ¬ nGG ft_ mz 5 15 44 (mkn_12, mvn_12, mbn_12, mpn_12)) (Lx : rR ft_ mz = (((mkn_15, mvn_15, mbn_15, mpn_15), m38 frn_15), nE 5 15 (mkn_12, mvn_12, mbn_12, mpn_12))) (Ln : ¬ nE 5 15 (mkn_12, mvn_12, mbn_12, mpn_12) = 0) : (¬ (rR ft_ mz).2 = 0 → mwn_15 = (rR ft_ mz).2) := by
  first
  | (rw [Lx]; exact Ln)
  | (rw [Lx]; done)
  | (intro q_; rw [Lx]; grind)
  | grind
theorem lf_X8_readLevel_10 {mz : Nat} {ft_ : Nat → Int32} {w_3 : Nat → Int32} {g_10 : Nat → Int32} {mkn_11 : Int32} {mvn_11 : Int32} {mbn_11 : Int32} {mpn_11 : Nat} {mkn_12 : Int32} {mvn_12 : Int32} {mbn_12 : Int32} {mpn_12 : Nat} {mwn_12 : Int32} {mkn_15 : Int32} {mvn_15 : Int32} {mbn_15 : Int32} {mpn_15 : Nat} {mwn_15 : Int32} {frn_15 : Nat → Int32} (hmz : mz ≤ 120) (haf_0 : (∀ j : Nat, j < 38 → w_3 j = 0)) (hu_10 : g_10 = upd w_3 6 1) (Lr : m38 g_10 = r0) (hF_11_0 : mpn_11 ≤ mz) (hF_11_1 : nT ft_ mz 0 = (mkn_11, mvn_11, mbn_11, mpn_11)) (hF_12_0 : mpn_12 ≤ mz) (hF_12_1 : kU ft_ mz 109 (mkn_11, mvn_11, mbn_11, mpn_11) = (mkn_12, mvn_12, mbn_12, mpn_12)) (hF_12_2 : (¬ kG 109 (mkn_11, mvn_11, mbn_11, mpn_11) → mwn_12 = 1)) (f_12_1_0 : kG 109 (mkn_11, mvn_11, mbn_11, mpn_11)) (La : lRa ft_ mz = (((mkn_12, mvn_12, mbn_12, mpn_12), m38 g_10), 0)) (hF_15_0 : mpn_15 ≤ mz) (hF_15_2 : nU ft_ mz 5 15 44 (mkn_12, mvn_12, mbn_12, mpn_12) = (mkn_15, mvn_15, mbn_15, mpn_15)) (hF_15_3 : m38 frn_15 = nR 5 15 0 (mkn_12, mvn_12, mbn_12, mpn_12) (m38 g_10)) (hF_15_4 : (¬ nGG ft_ mz 5 15 44 (mkn_12, mvn_12, mbn_12, mpn_12) → mwn_15 = nE 5 15 (mkn_12, mvn_12, mbn_12, mpn_12))) (f_15_0_0 : ¬ nGG ft_ mz 5 15 44 (mkn_12, mvn_12, mbn_12, mpn_12)) (Lx : rR ft_ mz = (((mkn_15, mvn_15, mbn_15, mpn_15), m38 frn_15), nE 5 15 (mkn_12, mvn_12, mbn_12, mpn_12))) (Ln : ¬ nE 5 15 (mkn_12, mvn_12, mbn_12, mpn_12) = 0) : ¬ (rR ft_ mz).2 = 0 := by
  first
  | (rw [Lx]; exact Ln)
  | (rw [Lx]; done)
  | (intro q_; rw [Lx]; grind)
  | grind
theorem lf_X8_readLevel_11 {mz : Nat} {ft_ : Nat → Int32} {w_3 : Nat → Int32} {g_10 : Nat → Int32} {mkn_11 : Int32} {mvn_11 : Int32} {mbn_11 : Int32} {mpn_11 : Nat} {mkn_12 : Int32} {mvn_12 : Int32} {mbn_12 : Int32} {mpn_12 : Nat} {mwn_12 : Int32} {mkn_15 : Int32} {mvn_15 : Int32} {mbn_15 : Int32} {mpn_15 : Nat} {mwn_15 : Int32} {frn_15 : Nat → Int32} {cq : Nat} (hmz : mz ≤ 120) (haf_0 : (∀ j : Nat, j < 38 → w_3 j = 0)) (hu_10 : g_10 = upd w_3 6 1) (Lr : m38 g_10 = r0) (hF_11_0 : mpn_11 ≤ mz) (hF_11_1 : nT ft_ mz 0 = (mkn_11, mvn_11, mbn_11, mpn_11)) (hF_12_0 : mpn_12 ≤ mz) (hF_12_1 : kU ft_ mz 109 (mkn_11, mvn_11, mbn_11, mpn_11) = (mkn_12, mvn_12, mbn_12, mpn_12)) (hF_12_2 : (¬ kG 109 (mkn_11, mvn_11, mbn_11, mpn_11) → mwn_12 = 1)) (f_12_1_0 : kG 109 (mkn_11, mvn_11, mbn_11, mpn_11)) (La : lRa ft_ mz = (((mkn_12, mvn_12, mbn_12, mpn_12), m38 g_10), 0)) (hF_15_0 : mpn_15 ≤ mz) (hF_15_2 : nU ft_ mz 5 15 44 (mkn_12, mvn_12, mbn_12, mpn_12) = (mkn_15, mvn_15, mbn_15, mpn_15)) (hF_15_3 : m38 frn_15 = nR 5 15 0 (mkn_12, mvn_12, mbn_12, mpn_12) (m38 g_10)) (hF_15_4 : (¬ nGG ft_ mz 5 15 44 (mkn_12, mvn_12, mbn_12, mpn_12) → mwn_15 = nE 5 15 (mkn_12, mvn_12, mbn_12, mpn_12))) (f_15_1_0 : nGG ft_ mz 5 15 44 (mkn_12, mvn_12, mbn_12, mpn_12)) (hR_15 : okR frn_15 cq 0 0 0) : lRb ft_ mz = (((mkn_15, mvn_15, mbn_15, mpn_15), m38 frn_15), 0) := by
  simp only [lRb, La, mB, nRr]; grind
theorem lf_X8_readLevel_12 {mz : Nat} {ft_ : Nat → Int32} {w_3 : Nat → Int32} {g_10 : Nat → Int32} {mkn_11 : Int32} {mvn_11 : Int32} {mbn_11 : Int32} {mpn_11 : Nat} {mkn_12 : Int32} {mvn_12 : Int32} {mbn_12 : Int32} {mpn_12 : Nat} {mwn_12 : Int32} {mkn_15 : Int32} {mvn_15 : Int32} {mbn_15 : Int32} {mpn_15 : Nat} {mwn_15 : Int32} {frn_15 : Nat → Int32} {cq : Nat} {v_19 : Int32} {mkn_20 : Int32} {mvn_20 : Int32} {mbn_20 : Int32} {mpn_20 : Nat} {mwn_20 : Int32} {frn_20 : Nat → Int32} (hmz : mz ≤ 120) (haf_0 : (∀ j : Nat, j < 38 → w_3 j = 0)) (hu_10 : g_10 = upd w_3 6 1) (Lr : m38 g_10 = r0) (hF_11_0 : mpn_11 ≤ mz) (hF_11_1 : nT ft_ mz 0 = (mkn_11, mvn_11, mbn_11, mpn_11)) (hF_12_0 : mpn_12 ≤ mz) (hF_12_1 : kU ft_ mz 109 (mkn_11, mvn_11, mbn_11, mpn_11) = (mkn_12, mvn_12, mbn_12, mpn_12)) (hF_12_2 : (¬ kG 109 (mkn_11, mvn_11, mbn_11, mpn_11) → mwn_12 = 1)) (f_12_1_0 : kG 109 (mkn_11, mvn_11, mbn_11, mpn_11)) (La : lRa ft_ mz = (((mkn_12, mvn_12, mbn_12, mpn_12), m38 g_10), 0)) (hF_15_0 : mpn_15 ≤ mz) (hF_15_2 : nU ft_ mz 5 15 44 (mkn_12, mvn_12, mbn_12, mpn_12) = (mkn_15, mvn_15, mbn_15, mpn_15)) (hF_15_3 : m38 frn_15 = nR 5 15 0 (mkn_12, mvn_12, mbn_12, mpn_12) (m38 g_10)) (hF_15_4 : (¬ nGG ft_ mz 5 15 44 (mkn_12, mvn_12, mbn_12, mpn_12) → mwn_15 = nE 5 15 (mkn_12, mvn_12, mbn_12, mpn_12))) (f_15_1_0 : nGG ft_ mz 5 15 44 (mkn_12, mvn_12, mbn_12, mpn_12)) (hR_15 : okR frn_15 cq 0 0 0) (Lb : lRb ft_ mz = (((mkn_15, mvn_15, mbn_15, mpn_15), m38 frn_15), 0)) (L0 : m38 frn_15 0 = nI cq) (e_19 : v_19 = ((nI cq) - 1)) (hF_20_0 : mpn_20 ≤ mz) (hF_20_2 : nU ft_ mz 0 v_19 44 (mkn_15, mvn_15, mbn_15, mpn_15) = (mkn_20, mvn_20, mbn_20, mpn_20)) (hF_20_3 : m38 frn_20 = nR 0 v_19 1 (mkn_15, mvn_15, mbn_15, mpn_15) (m38 frn_15)) (hF_20_4 : (¬ nGG ft_ mz 0 v_19 44 (mkn_15, mvn_15, mbn_15, mpn_15) → mwn_20 = nE 0 v_19 (mkn_15, mvn_15, mbn_15, mpn_15))) (f_20_0_0 : ¬ nGG ft_ mz 0 v_19 44 (mkn_15, mvn_15, mbn_15, mpn_15)) : rR ft_ mz = (((mkn_20, mvn_20, mbn_20, mpn_20), m38 frn_20), nE 0 ((nI cq) - 1) (mkn_15, mvn_15, mbn_15, mpn_15)) := by
  have h9 : lRc ft_ mz = (((mkn_20, mvn_20, mbn_20, mpn_20), m38 frn_20), nE 0 ((nI cq) - 1) (mkn_15, mvn_15, mbn_15, mpn_15)) := (by simp only [lRc, Lb, mB, nRr]; grind)
  exact rR_c h9 (nE_nz _ _ _)
theorem lf_X8_readLevel_13 {mz : Nat} {ft_ : Nat → Int32} {w_3 : Nat → Int32} {g_10 : Nat → Int32} {mkn_11 : Int32} {mvn_11 : Int32} {mbn_11 : Int32} {mpn_11 : Nat} {mkn_12 : Int32} {mvn_12 : Int32} {mbn_12 : Int32} {mpn_12 : Nat} {mwn_12 : Int32} {mkn_15 : Int32} {mvn_15 : Int32} {mbn_15 : Int32} {mpn_15 : Nat} {mwn_15 : Int32} {frn_15 : Nat → Int32} {cq : Nat} {v_19 : Int32} {mkn_20 : Int32} {mvn_20 : Int32} {mbn_20 : Int32} {mpn_20 : Nat} {mwn_20 : Int32} {frn_20 : Nat → Int32} (hmz : mz ≤ 120) (haf_0 : (∀ j : Nat, j < 38 → w_3 j = 0)) (hu_10 : g_10 = upd w_3 6 1) (Lr : m38 g_10 = r0) (hF_11_0 : mpn_11 ≤ mz) (hF_11_1 : nT ft_ mz 0 = (mkn_11, mvn_11, mbn_11, mpn_11)) (hF_12_0 : mpn_12 ≤ mz) (hF_12_1 : kU ft_ mz 109 (mkn_11, mvn_11, mbn_11, mpn_11) = (mkn_12, mvn_12, mbn_12, mpn_12)) (hF_12_2 : (¬ kG 109 (mkn_11, mvn_11, mbn_11, mpn_11) → mwn_12 = 1)) (f_12_1_0 : kG 109 (mkn_11, mvn_11, mbn_11, mpn_11)) (La : lRa ft_ mz = (((mkn_12, mvn_12, mbn_12, mpn_12), m38 g_10), 0)) (hF_15_0 : mpn_15 ≤ mz) (hF_15_2 : nU ft_ mz 5 15 44 (mkn_12, mvn_12, mbn_12, mpn_12) = (mkn_15, mvn_15, mbn_15, mpn_15)) (hF_15_3 : m38 frn_15 = nR 5 15 0 (mkn_12, mvn_12, mbn_12, mpn_12) (m38 g_10)) (hF_15_4 : (¬ nGG ft_ mz 5 15 44 (mkn_12, mvn_12, mbn_12, mpn_12) → mwn_15 = nE 5 15 (mkn_12, mvn_12, mbn_12, mpn_12))) (f_15_1_0 : nGG ft_ mz 5 15 44 (mkn_12, mvn_12, mbn_12, mpn_12)) (hR_15 : okR frn_15 cq 0 0 0) (Lb : lRb ft_ mz = (((mkn_15, mvn_15, mbn_15, mpn_15), m38 frn_15), 0)) (L0 : m38 frn_15 0 = nI cq) (e_19 : v_19 = ((nI cq) - 1)) (hF_20_0 : mpn_20 ≤ mz) (hF_20_2 : nU ft_ mz 0 v_19 44 (mkn_15, mvn_15, mbn_15, mpn_15) = (mkn_20, mvn_20, mbn_20, mpn_20)) (hF_20_3 : m38 frn_20 = nR 0 v_19 1 (mkn_15, mvn_15, mbn_15, mpn_15) (m38 frn_15)) (hF_20_4 : (¬ nGG ft_ mz 0 v_19 44 (mkn_15, mvn_15, mbn_15, mpn_15) → mwn_20 = nE 0 v_19 (mkn_15, mvn_15, mbn_15, mpn_15))) (f_20_0_0 : ¬ nGG ft_ mz 0 v_19 44 (mkn_15, mvn_15, mbn_15, mpn_15)) (Lx : rR ft_ mz = (((mkn_20, mvn_20, mbn_20, mpn_20), m38 frn_20), nE 0 ((nI cq) - 1) (mkn_15, mvn_15, mbn_15, mpn_15))) (Ln : ¬ nE 0 ((nI cq) - 1) (mkn_15, mvn_15, mbn_15, mpn_15) = 0) : (rR ft_ mz).1 = ((mkn_20, mvn_20, mbn_20, mpn_20), m38 frn_20) := by
  first
  | (rw [Lx]; exact Ln)
  | (rw [Lx]; done)
  | (intro q_; rw [Lx]; grind)
  | grind
theorem lf_X8_readLevel_14 {mz : Nat} {ft_ : Nat → Int32} {w_3 : Nat → Int32} {g_10 : Nat → Int32} {mkn_11 : Int32} {mvn_11 : Int32} {mbn_11 : Int32} {mpn_11 : Nat} {mkn_12 : Int32} {mvn_12 : Int32} {mbn_12 : Int32} {mpn_12 : Nat} {mwn_12 : Int32} {mkn_15 : Int32} {mvn_15 : Int32} {mbn_15 : Int32} {mpn_15 : Nat} {mwn_15 : Int32} {frn_15 : Nat → Int32} {cq : Nat} {v_19 : Int32} {mkn_20 : Int32} {mvn_20 : Int32} {mbn_20 : Int32} {mpn_20 : Nat} {mwn_20 : Int32} {frn_20 : Nat → Int32} (hmz : mz ≤ 120) (haf_0 : (∀ j : Nat, j < 38 → w_3 j = 0)) (hu_10 : g_10 = upd w_3 6 1) (Lr : m38 g_10 = r0) (hF_11_0 : mpn_11 ≤ mz) (hF_11_1 : nT ft_ mz 0 = (mkn_11, mvn_11, mbn_11, mpn_11)) (hF_12_0 : mpn_12 ≤ mz) (hF_12_1 : kU ft_ mz 109 (mkn_11, mvn_11, mbn_11, mpn_11) = (mkn_12, mvn_12, mbn_12, mpn_12)) (hF_12_2 : (¬ kG 109 (mkn_11, mvn_11, mbn_11, mpn_11) → mwn_12 = 1)) (f_12_1_0 : kG 109 (mkn_11, mvn_11, mbn_11, mpn_11)) (La : lRa ft_ mz = (((mkn_12, mvn_12, mbn_12, mpn_12), m38 g_10), 0)) (hF_15_0 : mpn_15 ≤ mz) (hF_15_2 : nU ft_ mz 5 15 44 (mkn_12, mvn_12, mbn_12, mpn_12) = (mkn_15, mvn_15, mbn_15, mpn_15)) (hF_15_3 : m38 frn_15 = nR 5 15 0 (mkn_12, mvn_12, mbn_12, mpn_12) (m38 g_10)) (hF_15_4 : (¬ nGG ft_ mz 5 15 44 (mkn_12, mvn_12, mbn_12, mpn_12) → mwn_15 = nE 5 15 (mkn_12, mvn_12, mbn_12, mpn_12))) (f_15_1_0 : nGG ft_ mz 5 15 44 (mkn_12, mvn_12, mbn_12, mpn_12)) (hR_15 : okR frn_15 cq 0 0 0) (Lb : lRb ft_ mz = (((mkn_15, mvn_15, mbn_15, mpn_15), m38 frn_15), 0)) (L0 : m38 frn_15 0 = nI cq) (e_19 : v_19 = ((nI cq) - 1)) (hF_20_0 : mpn_20 ≤ mz) (hF_20_2 : nU ft_ mz 0 v_19 44 (mkn_15, mvn_15, mbn_15, mpn_15) = (mkn_20, mvn_20, mbn_20, mpn_20)) (hF_20_3 : m38 frn_20 = nR 0 v_19 1 (mkn_15, mvn_15, mbn_15, mpn_15) (m38 frn_15)) (hF_20_4 : (¬ nGG ft_ mz 0 v_19 44 (mkn_15, mvn_15, mbn_15, mpn_15) → mwn_20 = nE 0 v_19 (mkn_15, mvn_15, mbn_15, mpn_15))) (f_20_0_0 : ¬ nGG ft_ mz 0 v_19 44 (mkn_15, mvn_15, mbn_15, mpn_15)) (Lx : rR ft_ mz = (((mkn_20, mvn_20, mbn_20, mpn_20), m38 frn_20), nE 0 ((nI cq) - 1) (mkn_15, mvn_15, mbn_15, mpn_15))) (Ln : ¬ nE 0 ((nI cq) - 1) (mkn_15, mvn_15, mbn_15, mpn_15) = 0) : (¬ (rR ft_ mz).2 = 0 → mwn_20 = (rR ft_ mz).2) := by
  first
  | (rw [Lx]; exact Ln)
  | (rw [Lx]; done)
  | (intro q_; rw [Lx]; grind)
  | grind
theorem lf_X8_readLevel_15 {mz : Nat} {ft_ : Nat → Int32} {w_3 : Nat → Int32} {g_10 : Nat → Int32} {mkn_11 : Int32} {mvn_11 : Int32} {mbn_11 : Int32} {mpn_11 : Nat} {mkn_12 : Int32} {mvn_12 : Int32} {mbn_12 : Int32} {mpn_12 : Nat} {mwn_12 : Int32} {mkn_15 : Int32} {mvn_15 : Int32} {mbn_15 : Int32} {mpn_15 : Nat} {mwn_15 : Int32} {frn_15 : Nat → Int32} {cq : Nat} {v_19 : Int32} {mkn_20 : Int32} {mvn_20 : Int32} {mbn_20 : Int32} {mpn_20 : Nat} {mwn_20 : Int32} {frn_20 : Nat → Int32} (hmz : mz ≤ 120) (haf_0 : (∀ j : Nat, j < 38 → w_3 j = 0)) (hu_10 : g_10 = upd w_3 6 1) (Lr : m38 g_10 = r0) (hF_11_0 : mpn_11 ≤ mz) (hF_11_1 : nT ft_ mz 0 = (mkn_11, mvn_11, mbn_11, mpn_11)) (hF_12_0 : mpn_12 ≤ mz) (hF_12_1 : kU ft_ mz 109 (mkn_11, mvn_11, mbn_11, mpn_11) = (mkn_12, mvn_12, mbn_12, mpn_12)) (hF_12_2 : (¬ kG 109 (mkn_11, mvn_11, mbn_11, mpn_11) → mwn_12 = 1)) (f_12_1_0 : kG 109 (mkn_11, mvn_11, mbn_11, mpn_11)) (La : lRa ft_ mz = (((mkn_12, mvn_12, mbn_12, mpn_12), m38 g_10), 0)) (hF_15_0 : mpn_15 ≤ mz) (hF_15_2 : nU ft_ mz 5 15 44 (mkn_12, mvn_12, mbn_12, mpn_12) = (mkn_15, mvn_15, mbn_15, mpn_15)) (hF_15_3 : m38 frn_15 = nR 5 15 0 (mkn_12, mvn_12, mbn_12, mpn_12) (m38 g_10)) (hF_15_4 : (¬ nGG ft_ mz 5 15 44 (mkn_12, mvn_12, mbn_12, mpn_12) → mwn_15 = nE 5 15 (mkn_12, mvn_12, mbn_12, mpn_12))) (f_15_1_0 : nGG ft_ mz 5 15 44 (mkn_12, mvn_12, mbn_12, mpn_12)) (hR_15 : okR frn_15 cq 0 0 0) (Lb : lRb ft_ mz = (((mkn_15, mvn_15, mbn_15, mpn_15), m38 frn_15), 0)) (L0 : m38 frn_15 0 = nI cq) (e_19 : v_19 = ((nI cq) - 1)) (hF_20_0 : mpn_20 ≤ mz) (hF_20_2 : nU ft_ mz 0 v_19 44 (mkn_15, mvn_15, mbn_15, mpn_15) = (mkn_20, mvn_20, mbn_20, mpn_20)) (hF_20_3 : m38 frn_20 = nR 0 v_19 1 (mkn_15, mvn_15, mbn_15, mpn_15) (m38 frn_15)) (hF_20_4 : (¬ nGG ft_ mz 0 v_19 44 (mkn_15, mvn_15, mbn_15, mpn_15) → mwn_20 = nE 0 v_19 (mkn_15, mvn_15, mbn_15, mpn_15))) (f_20_0_0 : ¬ nGG ft_ mz 0 v_19 44 (mkn_15, mvn_15, mbn_15, mpn_15)) (Lx : rR ft_ mz = (((mkn_20, mvn_20, mbn_20, mpn_20), m38 frn_20), nE 0 ((nI cq) - 1) (mkn_15, mvn_15, mbn_15, mpn_15))) (Ln : ¬ nE 0 ((nI cq) - 1) (mkn_15, mvn_15, mbn_15, mpn_15) = 0) : ¬ (rR ft_ mz).2 = 0 := by
  first
  | (rw [Lx]; exact Ln)
  | (rw [Lx]; done)
  | (intro q_; rw [Lx]; grind)
  | grind
theorem lf_X8_readLevel_16 {mz : Nat} {ft_ : Nat → Int32} {w_3 : Nat → Int32} {g_10 : Nat → Int32} {mkn_11 : Int32} {mvn_11 : Int32} {mbn_11 : Int32} {mpn_11 : Nat} {mkn_12 : Int32} {mvn_12 : Int32} {mbn_12 : Int32} {mpn_12 : Nat} {mwn_12 : Int32} {mkn_15 : Int32} {mvn_15 : Int32} {mbn_15 : Int32} {mpn_15 : Nat} {mwn_15 : Int32} {frn_15 : Nat → Int32} {cq : Nat} {v_19 : Int32} {mkn_20 : Int32} {mvn_20 : Int32} {mbn_20 : Int32} {mpn_20 : Nat} {mwn_20 : Int32} {frn_20 : Nat → Int32} (hmz : mz ≤ 120) (haf_0 : (∀ j : Nat, j < 38 → w_3 j = 0)) (hu_10 : g_10 = upd w_3 6 1) (Lr : m38 g_10 = r0) (hF_11_0 : mpn_11 ≤ mz) (hF_11_1 : nT ft_ mz 0 = (mkn_11, mvn_11, mbn_11, mpn_11)) (hF_12_0 : mpn_12 ≤ mz) (hF_12_1 : kU ft_ mz 109 (mkn_11, mvn_11, mbn_11, mpn_11) = (mkn_12, mvn_12, mbn_12, mpn_12)) (hF_12_2 : (¬ kG 109 (mkn_11, mvn_11, mbn_11, mpn_11) → mwn_12 = 1)) (f_12_1_0 : kG 109 (mkn_11, mvn_11, mbn_11, mpn_11)) (La : lRa ft_ mz = (((mkn_12, mvn_12, mbn_12, mpn_12), m38 g_10), 0)) (hF_15_0 : mpn_15 ≤ mz) (hF_15_2 : nU ft_ mz 5 15 44 (mkn_12, mvn_12, mbn_12, mpn_12) = (mkn_15, mvn_15, mbn_15, mpn_15)) (hF_15_3 : m38 frn_15 = nR 5 15 0 (mkn_12, mvn_12, mbn_12, mpn_12) (m38 g_10)) (hF_15_4 : (¬ nGG ft_ mz 5 15 44 (mkn_12, mvn_12, mbn_12, mpn_12) → mwn_15 = nE 5 15 (mkn_12, mvn_12, mbn_12, mpn_12))) (f_15_1_0 : nGG ft_ mz 5 15 44 (mkn_12, mvn_12, mbn_12, mpn_12)) (hR_15 : okR frn_15 cq 0 0 0) (Lb : lRb ft_ mz = (((mkn_15, mvn_15, mbn_15, mpn_15), m38 frn_15), 0)) (L0 : m38 frn_15 0 = nI cq) (e_19 : v_19 = ((nI cq) - 1)) (hF_20_0 : mpn_20 ≤ mz) (hF_20_2 : nU ft_ mz 0 v_19 44 (mkn_15, mvn_15, mbn_15, mpn_15) = (mkn_20, mvn_20, mbn_20, mpn_20)) (hF_20_3 : m38 frn_20 = nR 0 v_19 1 (mkn_15, mvn_15, mbn_15, mpn_15) (m38 frn_15)) (hF_20_4 : (¬ nGG ft_ mz 0 v_19 44 (mkn_15, mvn_15, mbn_15, mpn_15) → mwn_20 = nE 0 v_19 (mkn_15, mvn_15, mbn_15, mpn_15))) (f_20_1_0 : nGG ft_ mz 0 v_19 44 (mkn_15, mvn_15, mbn_15, mpn_15)) (hR_20 : okR frn_20 cq 0 0 0) : lRc ft_ mz = (((mkn_20, mvn_20, mbn_20, mpn_20), m38 frn_20), 0) := by
  simp only [lRc, Lb, mB, nRr]; grind
theorem lf_X8_readLevel_17 {mz : Nat} {ft_ : Nat → Int32} {w_3 : Nat → Int32} {g_10 : Nat → Int32} {mkn_11 : Int32} {mvn_11 : Int32} {mbn_11 : Int32} {mpn_11 : Nat} {mkn_12 : Int32} {mvn_12 : Int32} {mbn_12 : Int32} {mpn_12 : Nat} {mwn_12 : Int32} {mkn_15 : Int32} {mvn_15 : Int32} {mbn_15 : Int32} {mpn_15 : Nat} {mwn_15 : Int32} {frn_15 : Nat → Int32} {cq : Nat} {v_19 : Int32} {mkn_20 : Int32} {mvn_20 : Int32} {mbn_20 : Int32} {mpn_20 : Nat} {mwn_20 : Int32} {frn_20 : Nat → Int32} {mkn_23 : Int32} {mvn_23 : Int32} {mbn_23 : Int32} {mpn_23 : Nat} {mwn_23 : Int32} {frn_23 : Nat → Int32} (hmz : mz ≤ 120) (haf_0 : (∀ j : Nat, j < 38 → w_3 j = 0)) (hu_10 : g_10 = upd w_3 6 1) (Lr : m38 g_10 = r0) (hF_11_0 : mpn_11 ≤ mz) (hF_11_1 : nT ft_ mz 0 = (mkn_11, mvn_11, mbn_11, mpn_11)) (hF_12_0 : mpn_12 ≤ mz) (hF_12_1 : kU ft_ mz 109 (mkn_11, mvn_11, mbn_11, mpn_11) = (mkn_12, mvn_12, mbn_12, mpn_12)) (hF_12_2 : (¬ kG 109 (mkn_11, mvn_11, mbn_11, mpn_11) → mwn_12 = 1)) (f_12_1_0 : kG 109 (mkn_11, mvn_11, mbn_11, mpn_11)) (La : lRa ft_ mz = (((mkn_12, mvn_12, mbn_12, mpn_12), m38 g_10), 0)) (hF_15_0 : mpn_15 ≤ mz) (hF_15_2 : nU ft_ mz 5 15 44 (mkn_12, mvn_12, mbn_12, mpn_12) = (mkn_15, mvn_15, mbn_15, mpn_15)) (hF_15_3 : m38 frn_15 = nR 5 15 0 (mkn_12, mvn_12, mbn_12, mpn_12) (m38 g_10)) (hF_15_4 : (¬ nGG ft_ mz 5 15 44 (mkn_12, mvn_12, mbn_12, mpn_12) → mwn_15 = nE 5 15 (mkn_12, mvn_12, mbn_12, mpn_12))) (f_15_1_0 : nGG ft_ mz 5 15 44 (mkn_12, mvn_12, mbn_12, mpn_12)) (hR_15 : okR frn_15 cq 0 0 0) (Lb : lRb ft_ mz = (((mkn_15, mvn_15, mbn_15, mpn_15), m38 frn_15), 0)) (L0 : m38 frn_15 0 = nI cq) (e_19 : v_19 = ((nI cq) - 1)) (hF_20_0 : mpn_20 ≤ mz) (hF_20_2 : nU ft_ mz 0 v_19 44 (mkn_15, mvn_15, mbn_15, mpn_15) = (mkn_20, mvn_20, mbn_20, mpn_20)) (hF_20_3 : m38 frn_20 = nR 0 v_19 1 (mkn_15, mvn_15, mbn_15, mpn_15) (m38 frn_15)) (hF_20_4 : (¬ nGG ft_ mz 0 v_19 44 (mkn_15, mvn_15, mbn_15, mpn_15) → mwn_20 = nE 0 v_19 (mkn_15, mvn_15, mbn_15, mpn_15))) (f_20_1_0 : nGG ft_ mz 0 v_19 44 (mkn_15, mvn_15, mbn_15, mpn_15)) (hR_20 : okR frn_20 cq 0 0 0) (Lc : lRc ft_ mz = (((mkn_20, mvn_20, mbn_20, mpn_20), m38 frn_20), 0)) (hF_23_0 : mpn_23 ≤ mz) (hF_23_2 : nU ft_ mz 0 4 59 (mkn_20, mvn_20, mbn_20, mpn_20) = (mkn_23, mvn_23, mbn_23, mpn_23)) (hF_23_3 : m38 frn_23 = nR 0 4 2 (mkn_20, mvn_20, mbn_20, mpn_20) (m38 frn_20)) (hF_23_4 : (¬ nGG ft_ mz 0 4 59 (mkn_20, mvn_20, mbn_20, mpn_20) → mwn_23 = nE 0 4 (mkn_20, mvn_20, mbn_20, mpn_20))) (f_23_0_0 : ¬ nGG ft_ mz 0 4 59 (mkn_20, mvn_20, mbn_20, mpn_20)) : rR ft_ mz = (((mkn_23, mvn_23, mbn_23, mpn_23), m38 frn_23), nE 0 4 (mkn_20, mvn_20, mbn_20, mpn_20)) := by
  have h9 : lRd ft_ mz = (((mkn_23, mvn_23, mbn_23, mpn_23), m38 frn_23), nE 0 4 (mkn_20, mvn_20, mbn_20, mpn_20)) := (by simp only [lRd, Lc, mB, nRr]; grind)
  exact rR_d h9 (nE_nz _ _ _)
theorem lf_X8_readLevel_18 {mz : Nat} {ft_ : Nat → Int32} {w_3 : Nat → Int32} {g_10 : Nat → Int32} {mkn_11 : Int32} {mvn_11 : Int32} {mbn_11 : Int32} {mpn_11 : Nat} {mkn_12 : Int32} {mvn_12 : Int32} {mbn_12 : Int32} {mpn_12 : Nat} {mwn_12 : Int32} {mkn_15 : Int32} {mvn_15 : Int32} {mbn_15 : Int32} {mpn_15 : Nat} {mwn_15 : Int32} {frn_15 : Nat → Int32} {cq : Nat} {v_19 : Int32} {mkn_20 : Int32} {mvn_20 : Int32} {mbn_20 : Int32} {mpn_20 : Nat} {mwn_20 : Int32} {frn_20 : Nat → Int32} {mkn_23 : Int32} {mvn_23 : Int32} {mbn_23 : Int32} {mpn_23 : Nat} {mwn_23 : Int32} {frn_23 : Nat → Int32} (hmz : mz ≤ 120) (haf_0 : (∀ j : Nat, j < 38 → w_3 j = 0)) (hu_10 : g_10 = upd w_3 6 1) (Lr : m38 g_10 = r0) (hF_11_0 : mpn_11 ≤ mz) (hF_11_1 : nT ft_ mz 0 = (mkn_11, mvn_11, mbn_11, mpn_11)) (hF_12_0 : mpn_12 ≤ mz) (hF_12_1 : kU ft_ mz 109 (mkn_11, mvn_11, mbn_11, mpn_11) = (mkn_12, mvn_12, mbn_12, mpn_12)) (hF_12_2 : (¬ kG 109 (mkn_11, mvn_11, mbn_11, mpn_11) → mwn_12 = 1)) (f_12_1_0 : kG 109 (mkn_11, mvn_11, mbn_11, mpn_11)) (La : lRa ft_ mz = (((mkn_12, mvn_12, mbn_12, mpn_12), m38 g_10), 0)) (hF_15_0 : mpn_15 ≤ mz) (hF_15_2 : nU ft_ mz 5 15 44 (mkn_12, mvn_12, mbn_12, mpn_12) = (mkn_15, mvn_15, mbn_15, mpn_15)) (hF_15_3 : m38 frn_15 = nR 5 15 0 (mkn_12, mvn_12, mbn_12, mpn_12) (m38 g_10)) (hF_15_4 : (¬ nGG ft_ mz 5 15 44 (mkn_12, mvn_12, mbn_12, mpn_12) → mwn_15 = nE 5 15 (mkn_12, mvn_12, mbn_12, mpn_12))) (f_15_1_0 : nGG ft_ mz 5 15 44 (mkn_12, mvn_12, mbn_12, mpn_12)) (hR_15 : okR frn_15 cq 0 0 0) (Lb : lRb ft_ mz = (((mkn_15, mvn_15, mbn_15, mpn_15), m38 frn_15), 0)) (L0 : m38 frn_15 0 = nI cq) (e_19 : v_19 = ((nI cq) - 1)) (hF_20_0 : mpn_20 ≤ mz) (hF_20_2 : nU ft_ mz 0 v_19 44 (mkn_15, mvn_15, mbn_15, mpn_15) = (mkn_20, mvn_20, mbn_20, mpn_20)) (hF_20_3 : m38 frn_20 = nR 0 v_19 1 (mkn_15, mvn_15, mbn_15, mpn_15) (m38 frn_15)) (hF_20_4 : (¬ nGG ft_ mz 0 v_19 44 (mkn_15, mvn_15, mbn_15, mpn_15) → mwn_20 = nE 0 v_19 (mkn_15, mvn_15, mbn_15, mpn_15))) (f_20_1_0 : nGG ft_ mz 0 v_19 44 (mkn_15, mvn_15, mbn_15, mpn_15)) (hR_20 : okR frn_20 cq 0 0 0) (Lc : lRc ft_ mz = (((mkn_20, mvn_20, mbn_20, mpn_20), m38 frn_20), 0)) (hF_23_0 : mpn_23 ≤ mz) (hF_23_2 : nU ft_ mz 0 4 59 (mkn_20, mvn_20, mbn_20, mpn_20) = (mkn_23, mvn_23, mbn_23, mpn_23)) (hF_23_3 : m38 frn_23 = nR 0 4 2 (mkn_20, mvn_20, mbn_20, mpn_20) (m38 frn_20)) (hF_23_4 : (¬ nGG ft_ mz 0 4 59 (mkn_20, mvn_20, mbn_20, mpn_20) → mwn_23 = nE 0 4 (mkn_20, mvn_20, mbn_20, mpn_20))) (f_23_0_0 : ¬ nGG ft_ mz 0 4 59 (mkn_20, mvn_20, mbn_20, mpn_20)) (Lx : rR ft_ mz = (((mkn_23, mvn_23, mbn_23, mpn_23), m38 frn_23), nE 0 4 (mkn_20, mvn_20, mbn_20, mpn_20))) (Ln : ¬ nE 0 4 (mkn_20, mvn_20, mbn_20, mpn_20) = 0) : (rR ft_ mz).1 = ((mkn_23, mvn_23, mbn_23, mpn_23), m38 frn_23) := by
  first
  | (rw [Lx]; exact Ln)
  | (rw [Lx]; done)
  | (intro q_; rw [Lx]; grind)
  | grind
theorem lf_X8_readLevel_19 {mz : Nat} {ft_ : Nat → Int32} {w_3 : Nat → Int32} {g_10 : Nat → Int32} {mkn_11 : Int32} {mvn_11 : Int32} {mbn_11 : Int32} {mpn_11 : Nat} {mkn_12 : Int32} {mvn_12 : Int32} {mbn_12 : Int32} {mpn_12 : Nat} {mwn_12 : Int32} {mkn_15 : Int32} {mvn_15 : Int32} {mbn_15 : Int32} {mpn_15 : Nat} {mwn_15 : Int32} {frn_15 : Nat → Int32} {cq : Nat} {v_19 : Int32} {mkn_20 : Int32} {mvn_20 : Int32} {mbn_20 : Int32} {mpn_20 : Nat} {mwn_20 : Int32} {frn_20 : Nat → Int32} {mkn_23 : Int32} {mvn_23 : Int32} {mbn_23 : Int32} {mpn_23 : Nat} {mwn_23 : Int32} {frn_23 : Nat → Int32} (hmz : mz ≤ 120) (haf_0 : (∀ j : Nat, j < 38 → w_3 j = 0)) (hu_10 : g_10 = upd w_3 6 1) (Lr : m38 g_10 = r0) (hF_11_0 : mpn_11 ≤ mz) (hF_11_1 : nT ft_ mz 0 = (mkn_11, mvn_11, mbn_11, mpn_11)) (hF_12_0 : mpn_12 ≤ mz) (hF_12_1 : kU ft_ mz 109 (mkn_11, mvn_11, mbn_11, mpn_11) = (mkn_12, mvn_12, mbn_12, mpn_12)) (hF_12_2 : (¬ kG 109 (mkn_11, mvn_11, mbn_11, mpn_11) → mwn_12 = 1)) (f_12_1_0 : kG 109 (mkn_11, mvn_11, mbn_11, mpn_11)) (La : lRa ft_ mz = (((mkn_12, mvn_12, mbn_12, mpn_12), m38 g_10), 0)) (hF_15_0 : mpn_15 ≤ mz) (hF_15_2 : nU ft_ mz 5 15 44 (mkn_12, mvn_12, mbn_12, mpn_12) = (mkn_15, mvn_15, mbn_15, mpn_15)) (hF_15_3 : m38 frn_15 = nR 5 15 0 (mkn_12, mvn_12, mbn_12, mpn_12) (m38 g_10)) (hF_15_4 : (¬ nGG ft_ mz 5 15 44 (mkn_12, mvn_12, mbn_12, mpn_12) → mwn_15 = nE 5 15 (mkn_12, mvn_12, mbn_12, mpn_12))) (f_15_1_0 : nGG ft_ mz 5 15 44 (mkn_12, mvn_12, mbn_12, mpn_12)) (hR_15 : okR frn_15 cq 0 0 0) (Lb : lRb ft_ mz = (((mkn_15, mvn_15, mbn_15, mpn_15), m38 frn_15), 0)) (L0 : m38 frn_15 0 = nI cq) (e_19 : v_19 = ((nI cq) - 1)) (hF_20_0 : mpn_20 ≤ mz) (hF_20_2 : nU ft_ mz 0 v_19 44 (mkn_15, mvn_15, mbn_15, mpn_15) = (mkn_20, mvn_20, mbn_20, mpn_20)) (hF_20_3 : m38 frn_20 = nR 0 v_19 1 (mkn_15, mvn_15, mbn_15, mpn_15) (m38 frn_15)) (hF_20_4 : (¬ nGG ft_ mz 0 v_19 44 (mkn_15, mvn_15, mbn_15, mpn_15) → mwn_20 = nE 0 v_19 (mkn_15, mvn_15, mbn_15, mpn_15))) (f_20_1_0 : nGG ft_ mz 0 v_19 44 (mkn_15, mvn_15, mbn_15, mpn_15)) (hR_20 : okR frn_20 cq 0 0 0) (Lc : lRc ft_ mz = (((mkn_20, mvn_20, mbn_20, mpn_20), m38 frn_20), 0)) (hF_23_0 : mpn_23 ≤ mz) (hF_23_2 : nU ft_ mz 0 4 59 (mkn_20, mvn_20, mbn_20, mpn_20) = (mkn_23, mvn_23, mbn_23, mpn_23)) (hF_23_3 : m38 frn_23 = nR 0 4 2 (mkn_20, mvn_20, mbn_20, mpn_20) (m38 frn_20)) (hF_23_4 : (¬ nGG ft_ mz 0 4 59 (mkn_20, mvn_20, mbn_20, mpn_20) → mwn_23 = nE 0 4 (mkn_20, mvn_20, mbn_20, mpn_20))) (f_23_0_0 : ¬ nGG ft_ mz 0 4 59 (mkn_20, mvn_20, mbn_20, mpn_20)) (Lx : rR ft_ mz = (((mkn_23, mvn_23, mbn_23, mpn_23), m38 frn_23), nE 0 4 (mkn_20, mvn_20, mbn_20, mpn_20))) (Ln : ¬ nE 0 4 (mkn_20, mvn_20, mbn_20, mpn_20) = 0) : (¬ (rR ft_ mz).2 = 0 → mwn_23 = (rR ft_ mz).2) := by
  first
  | (rw [Lx]; exact Ln)
  | (rw [Lx]; done)
  | (intro q_; rw [Lx]; grind)
  | grind
theorem lf_X8_readLevel_20 {mz : Nat} {ft_ : Nat → Int32} {w_3 : Nat → Int32} {g_10 : Nat → Int32} {mkn_11 : Int32} {mvn_11 : Int32} {mbn_11 : Int32} {mpn_11 : Nat} {mkn_12 : Int32} {mvn_12 : Int32} {mbn_12 : Int32} {mpn_12 : Nat} {mwn_12 : Int32} {mkn_15 : Int32} {mvn_15 : Int32} {mbn_15 : Int32} {mpn_15 : Nat} {mwn_15 : Int32} {frn_15 : Nat → Int32} {cq : Nat} {v_19 : Int32} {mkn_20 : Int32} {mvn_20 : Int32} {mbn_20 : Int32} {mpn_20 : Nat} {mwn_20 : Int32} {frn_20 : Nat → Int32} {mkn_23 : Int32} {mvn_23 : Int32} {mbn_23 : Int32} {mpn_23 : Nat} {mwn_23 : Int32} {frn_23 : Nat → Int32} (hmz : mz ≤ 120) (haf_0 : (∀ j : Nat, j < 38 → w_3 j = 0)) (hu_10 : g_10 = upd w_3 6 1) (Lr : m38 g_10 = r0) (hF_11_0 : mpn_11 ≤ mz) (hF_11_1 : nT ft_ mz 0 = (mkn_11, mvn_11, mbn_11, mpn_11)) (hF_12_0 : mpn_12 ≤ mz) (hF_12_1 : kU ft_ mz 109 (mkn_11, mvn_11, mbn_11, mpn_11) = (mkn_12, mvn_12, mbn_12, mpn_12)) (hF_12_2 : (¬ kG 109 (mkn_11, mvn_11, mbn_11, mpn_11) → mwn_12 = 1)) (f_12_1_0 : kG 109 (mkn_11, mvn_11, mbn_11, mpn_11)) (La : lRa ft_ mz = (((mkn_12, mvn_12, mbn_12, mpn_12), m38 g_10), 0)) (hF_15_0 : mpn_15 ≤ mz) (hF_15_2 : nU ft_ mz 5 15 44 (mkn_12, mvn_12, mbn_12, mpn_12) = (mkn_15, mvn_15, mbn_15, mpn_15)) (hF_15_3 : m38 frn_15 = nR 5 15 0 (mkn_12, mvn_12, mbn_12, mpn_12) (m38 g_10)) (hF_15_4 : (¬ nGG ft_ mz 5 15 44 (mkn_12, mvn_12, mbn_12, mpn_12) → mwn_15 = nE 5 15 (mkn_12, mvn_12, mbn_12, mpn_12))) (f_15_1_0 : nGG ft_ mz 5 15 44 (mkn_12, mvn_12, mbn_12, mpn_12)) (hR_15 : okR frn_15 cq 0 0 0) (Lb : lRb ft_ mz = (((mkn_15, mvn_15, mbn_15, mpn_15), m38 frn_15), 0)) (L0 : m38 frn_15 0 = nI cq) (e_19 : v_19 = ((nI cq) - 1)) (hF_20_0 : mpn_20 ≤ mz) (hF_20_2 : nU ft_ mz 0 v_19 44 (mkn_15, mvn_15, mbn_15, mpn_15) = (mkn_20, mvn_20, mbn_20, mpn_20)) (hF_20_3 : m38 frn_20 = nR 0 v_19 1 (mkn_15, mvn_15, mbn_15, mpn_15) (m38 frn_15)) (hF_20_4 : (¬ nGG ft_ mz 0 v_19 44 (mkn_15, mvn_15, mbn_15, mpn_15) → mwn_20 = nE 0 v_19 (mkn_15, mvn_15, mbn_15, mpn_15))) (f_20_1_0 : nGG ft_ mz 0 v_19 44 (mkn_15, mvn_15, mbn_15, mpn_15)) (hR_20 : okR frn_20 cq 0 0 0) (Lc : lRc ft_ mz = (((mkn_20, mvn_20, mbn_20, mpn_20), m38 frn_20), 0)) (hF_23_0 : mpn_23 ≤ mz) (hF_23_2 : nU ft_ mz 0 4 59 (mkn_20, mvn_20, mbn_20, mpn_20) = (mkn_23, mvn_23, mbn_23, mpn_23)) (hF_23_3 : m38 frn_23 = nR 0 4 2 (mkn_20, mvn_20, mbn_20, mpn_20) (m38 frn_20)) (hF_23_4 : (¬ nGG ft_ mz 0 4 59 (mkn_20, mvn_20, mbn_20, mpn_20) → mwn_23 = nE 0 4 (mkn_20, mvn_20, mbn_20, mpn_20))) (f_23_0_0 : ¬ nGG ft_ mz 0 4 59 (mkn_20, mvn_20, mbn_20, mpn_20)) (Lx : rR ft_ mz = (((mkn_23, mvn_23, mbn_23, mpn_23), m38 frn_23), nE 0 4 (mkn_20, mvn_20, mbn_20, mpn_20))) (Ln : ¬ nE 0 4 (mkn_20, mvn_20, mbn_20, mpn_20) = 0) : ¬ (rR ft_ mz).2 = 0 := by
  first
  | (rw [Lx]; exact Ln)
  | (rw [Lx]; done)
  | (intro q_; rw [Lx]; grind)
  | grind
theorem lf_X8_readLevel_21 {mz : Nat} {ft_ : Nat → Int32} {w_3 : Nat → Int32} {g_10 : Nat → Int32} {mkn_11 : Int32} {mvn_11 : Int32} {mbn_11 : Int32} {mpn_11 : Nat} {mkn_12 : Int32} {mvn_12 : Int32} {mbn_12 : Int32} {mpn_12 : Nat} {mwn_12 : Int32} {mkn_15 : Int32} {mvn_15 : Int32} {mbn_15 : Int32} {mpn_15 : Nat} {mwn_15 : Int32} {frn_15 : Nat → Int32} {cq : Nat} {v_19 : Int32} {mkn_20 : Int32} {mvn_20 : Int32} {mbn_20 : Int32} {mpn_20 : Nat} {mwn_20 : Int32} {frn_20 : Nat → Int32} {mkn_23 : Int32} {mvn_23 : Int32} {mbn_23 : Int32} {mpn_23 : Nat} {mwn_23 : Int32} {frn_23 : Nat → Int32} (hmz : mz ≤ 120) (haf_0 : (∀ j : Nat, j < 38 → w_3 j = 0)) (hu_10 : g_10 = upd w_3 6 1) (Lr : m38 g_10 = r0) (hF_11_0 : mpn_11 ≤ mz) (hF_11_1 : nT ft_ mz 0 = (mkn_11, mvn_11, mbn_11, mpn_11)) (hF_12_0 : mpn_12 ≤ mz) (hF_12_1 : kU ft_ mz 109 (mkn_11, mvn_11, mbn_11, mpn_11) = (mkn_12, mvn_12, mbn_12, mpn_12)) (hF_12_2 : (¬ kG 109 (mkn_11, mvn_11, mbn_11, mpn_11) → mwn_12 = 1)) (f_12_1_0 : kG 109 (mkn_11, mvn_11, mbn_11, mpn_11)) (La : lRa ft_ mz = (((mkn_12, mvn_12, mbn_12, mpn_12), m38 g_10), 0)) (hF_15_0 : mpn_15 ≤ mz) (hF_15_2 : nU ft_ mz 5 15 44 (mkn_12, mvn_12, mbn_12, mpn_12) = (mkn_15, mvn_15, mbn_15, mpn_15)) (hF_15_3 : m38 frn_15 = nR 5 15 0 (mkn_12, mvn_12, mbn_12, mpn_12) (m38 g_10)) (hF_15_4 : (¬ nGG ft_ mz 5 15 44 (mkn_12, mvn_12, mbn_12, mpn_12) → mwn_15 = nE 5 15 (mkn_12, mvn_12, mbn_12, mpn_12))) (f_15_1_0 : nGG ft_ mz 5 15 44 (mkn_12, mvn_12, mbn_12, mpn_12)) (hR_15 : okR frn_15 cq 0 0 0) (Lb : lRb ft_ mz = (((mkn_15, mvn_15, mbn_15, mpn_15), m38 frn_15), 0)) (L0 : m38 frn_15 0 = nI cq) (e_19 : v_19 = ((nI cq) - 1)) (hF_20_0 : mpn_20 ≤ mz) (hF_20_2 : nU ft_ mz 0 v_19 44 (mkn_15, mvn_15, mbn_15, mpn_15) = (mkn_20, mvn_20, mbn_20, mpn_20)) (hF_20_3 : m38 frn_20 = nR 0 v_19 1 (mkn_15, mvn_15, mbn_15, mpn_15) (m38 frn_15)) (hF_20_4 : (¬ nGG ft_ mz 0 v_19 44 (mkn_15, mvn_15, mbn_15, mpn_15) → mwn_20 = nE 0 v_19 (mkn_15, mvn_15, mbn_15, mpn_15))) (f_20_1_0 : nGG ft_ mz 0 v_19 44 (mkn_15, mvn_15, mbn_15, mpn_15)) (hR_20 : okR frn_20 cq 0 0 0) (Lc : lRc ft_ mz = (((mkn_20, mvn_20, mbn_20, mpn_20), m38 frn_20), 0)) (hF_23_0 : mpn_23 ≤ mz) (hF_23_2 : nU ft_ mz 0 4 59 (mkn_20, mvn_20, mbn_20, mpn_20) = (mkn_23, mvn_23, mbn_23, mpn_23)) (hF_23_3 : m38 frn_23 = nR 0 4 2 (mkn_20, mvn_20, mbn_20, mpn_20) (m38 frn_20)) (hF_23_4 : (¬ nGG ft_ mz 0 4 59 (mkn_20, mvn_20, mbn_20, mpn_20) → mwn_23 = nE 0 4 (mkn_20, mvn_20, mbn_20, mpn_20))) (f_23_1_0 : nGG ft_ mz 0 4 59 (mkn_20, mvn_20, mbn_20, mpn_20)) (hR_23 : okR frn_23 cq 0 0 0) : lRd ft_ mz = (((mkn_23, mvn_23, mbn_23, mpn_23), m38 frn_23), 0) := by
  simp only [lRd, Lc, mB, nRr]; grind
theorem lf_X8_readLevel_22 {mz : Nat} {ft_ : Nat → Int32} {w_3 : Nat → Int32} {g_10 : Nat → Int32} {mkn_11 : Int32} {mvn_11 : Int32} {mbn_11 : Int32} {mpn_11 : Nat} {mkn_12 : Int32} {mvn_12 : Int32} {mbn_12 : Int32} {mpn_12 : Nat} {mwn_12 : Int32} {mkn_15 : Int32} {mvn_15 : Int32} {mbn_15 : Int32} {mpn_15 : Nat} {mwn_15 : Int32} {frn_15 : Nat → Int32} {cq : Nat} {v_19 : Int32} {mkn_20 : Int32} {mvn_20 : Int32} {mbn_20 : Int32} {mpn_20 : Nat} {mwn_20 : Int32} {frn_20 : Nat → Int32} {mkn_23 : Int32} {mvn_23 : Int32} {mbn_23 : Int32} {mpn_23 : Nat} {mwn_23 : Int32} {frn_23 : Nat → Int32} {mkn_26 : Int32} {mvn_26 : Int32} {mbn_26 : Int32} {mpn_26 : Nat} {mwn_26 : Int32} {frn_26 : Nat → Int32} (hmz : mz ≤ 120) (haf_0 : (∀ j : Nat, j < 38 → w_3 j = 0)) (hu_10 : g_10 = upd w_3 6 1) (Lr : m38 g_10 = r0) (hF_11_0 : mpn_11 ≤ mz) (hF_11_1 : nT ft_ mz 0 = (mkn_11, mvn_11, mbn_11, mpn_11)) (hF_12_0 : mpn_12 ≤ mz) (hF_12_1 : kU ft_ mz 109 (mkn_11, mvn_11, mbn_11, mpn_11) = (mkn_12, mvn_12, mbn_12, mpn_12)) (hF_12_2 : (¬ kG 109 (mkn_11, mvn_11, mbn_11, mpn_11) → mwn_12 = 1)) (f_12_1_0 : kG 109 (mkn_11, mvn_11, mbn_11, mpn_11)) (La : lRa ft_ mz = (((mkn_12, mvn_12, mbn_12, mpn_12), m38 g_10), 0)) (hF_15_0 : mpn_15 ≤ mz) (hF_15_2 : nU ft_ mz 5 15 44 (mkn_12, mvn_12, mbn_12, mpn_12) = (mkn_15, mvn_15, mbn_15, mpn_15)) (hF_15_3 : m38 frn_15 = nR 5 15 0 (mkn_12, mvn_12, mbn_12, mpn_12) (m38 g_10)) (hF_15_4 : (¬ nGG ft_ mz 5 15 44 (mkn_12, mvn_12, mbn_12, mpn_12) → mwn_15 = nE 5 15 (mkn_12, mvn_12, mbn_12, mpn_12))) (f_15_1_0 : nGG ft_ mz 5 15 44 (mkn_12, mvn_12, mbn_12, mpn_12)) (hR_15 : okR frn_15 cq 0 0 0) (Lb : lRb ft_ mz = (((mkn_15, mvn_15, mbn_15, mpn_15), m38 frn_15), 0)) (L0 : m38 frn_15 0 = nI cq) (e_19 : v_19 = ((nI cq) - 1)) (hF_20_0 : mpn_20 ≤ mz) (hF_20_2 : nU ft_ mz 0 v_19 44 (mkn_15, mvn_15, mbn_15, mpn_15) = (mkn_20, mvn_20, mbn_20, mpn_20)) (hF_20_3 : m38 frn_20 = nR 0 v_19 1 (mkn_15, mvn_15, mbn_15, mpn_15) (m38 frn_15)) (hF_20_4 : (¬ nGG ft_ mz 0 v_19 44 (mkn_15, mvn_15, mbn_15, mpn_15) → mwn_20 = nE 0 v_19 (mkn_15, mvn_15, mbn_15, mpn_15))) (f_20_1_0 : nGG ft_ mz 0 v_19 44 (mkn_15, mvn_15, mbn_15, mpn_15)) (hR_20 : okR frn_20 cq 0 0 0) (Lc : lRc ft_ mz = (((mkn_20, mvn_20, mbn_20, mpn_20), m38 frn_20), 0)) (hF_23_0 : mpn_23 ≤ mz) (hF_23_2 : nU ft_ mz 0 4 59 (mkn_20, mvn_20, mbn_20, mpn_20) = (mkn_23, mvn_23, mbn_23, mpn_23)) (hF_23_3 : m38 frn_23 = nR 0 4 2 (mkn_20, mvn_20, mbn_20, mpn_20) (m38 frn_20)) (hF_23_4 : (¬ nGG ft_ mz 0 4 59 (mkn_20, mvn_20, mbn_20, mpn_20) → mwn_23 = nE 0 4 (mkn_20, mvn_20, mbn_20, mpn_20))) (f_23_1_0 : nGG ft_ mz 0 4 59 (mkn_20, mvn_20, mbn_20, mpn_20)) (hR_23 : okR frn_23 cq 0 0 0) (Ld : lRd ft_ mz = (((mkn_23, mvn_23, mbn_23, mpn_23), m38 frn_23), 0)) (hF_26_0 : mpn_26 ≤ mz) (hF_26_2 : wS ft_ mz ((mkn_23, mvn_23, mbn_23, mpn_23), m38 frn_23) = ((mkn_26, mvn_26, mbn_26, mpn_26), m38 frn_26)) (hF_26_3 : (¬ wGG ft_ mz ((mkn_23, mvn_23, mbn_23, mpn_23), m38 frn_23) → mwn_26 = wE ft_ mz ((mkn_23, mvn_23, mbn_23, mpn_23), m38 frn_23))) (f_26_0_0 : ¬ wGG ft_ mz ((mkn_23, mvn_23, mbn_23, mpn_23), m38 frn_23)) : rR ft_ mz = (((mkn_26, mvn_26, mbn_26, mpn_26), m38 frn_26), wE ft_ mz ((mkn_23, mvn_23, mbn_23, mpn_23), m38 frn_23)) := by
  have h9 : lRe ft_ mz = (((mkn_26, mvn_26, mbn_26, mpn_26), m38 frn_26), wE ft_ mz ((mkn_23, mvn_23, mbn_23, mpn_23), m38 frn_23)) := (by simp only [lRe, Ld, mB, wR]; grind)
  exact rR_e h9 (wE_nz _ _ _)
theorem lf_X8_readLevel_23 {mz : Nat} {ft_ : Nat → Int32} {w_3 : Nat → Int32} {g_10 : Nat → Int32} {mkn_11 : Int32} {mvn_11 : Int32} {mbn_11 : Int32} {mpn_11 : Nat} {mkn_12 : Int32} {mvn_12 : Int32} {mbn_12 : Int32} {mpn_12 : Nat} {mwn_12 : Int32} {mkn_15 : Int32} {mvn_15 : Int32} {mbn_15 : Int32} {mpn_15 : Nat} {mwn_15 : Int32} {frn_15 : Nat → Int32} {cq : Nat} {v_19 : Int32} {mkn_20 : Int32} {mvn_20 : Int32} {mbn_20 : Int32} {mpn_20 : Nat} {mwn_20 : Int32} {frn_20 : Nat → Int32} {mkn_23 : Int32} {mvn_23 : Int32} {mbn_23 : Int32} {mpn_23 : Nat} {mwn_23 : Int32} {frn_23 : Nat → Int32} {mkn_26 : Int32} {mvn_26 : Int32} {mbn_26 : Int32} {mpn_26 : Nat} {mwn_26 : Int32} {frn_26 : Nat → Int32} (hmz : mz ≤ 120) (haf_0 : (∀ j : Nat, j < 38 → w_3 j = 0)) (hu_10 : g_10 = upd w_3 6 1) (Lr : m38 g_10 = r0) (hF_11_0 : mpn_11 ≤ mz) (hF_11_1 : nT ft_ mz 0 = (mkn_11, mvn_11, mbn_11, mpn_11)) (hF_12_0 : mpn_12 ≤ mz) (hF_12_1 : kU ft_ mz 109 (mkn_11, mvn_11, mbn_11, mpn_11) = (mkn_12, mvn_12, mbn_12, mpn_12)) (hF_12_2 : (¬ kG 109 (mkn_11, mvn_11, mbn_11, mpn_11) → mwn_12 = 1)) (f_12_1_0 : kG 109 (mkn_11, mvn_11, mbn_11, mpn_11)) (La : lRa ft_ mz = (((mkn_12, mvn_12, mbn_12, mpn_12), m38 g_10), 0)) (hF_15_0 : mpn_15 ≤ mz) (hF_15_2 : nU ft_ mz 5 15 44 (mkn_12, mvn_12, mbn_12, mpn_12) = (mkn_15, mvn_15, mbn_15, mpn_15)) (hF_15_3 : m38 frn_15 = nR 5 15 0 (mkn_12, mvn_12, mbn_12, mpn_12) (m38 g_10)) (hF_15_4 : (¬ nGG ft_ mz 5 15 44 (mkn_12, mvn_12, mbn_12, mpn_12) → mwn_15 = nE 5 15 (mkn_12, mvn_12, mbn_12, mpn_12))) (f_15_1_0 : nGG ft_ mz 5 15 44 (mkn_12, mvn_12, mbn_12, mpn_12)) (hR_15 : okR frn_15 cq 0 0 0) (Lb : lRb ft_ mz = (((mkn_15, mvn_15, mbn_15, mpn_15), m38 frn_15), 0)) (L0 : m38 frn_15 0 = nI cq) (e_19 : v_19 = ((nI cq) - 1)) (hF_20_0 : mpn_20 ≤ mz) (hF_20_2 : nU ft_ mz 0 v_19 44 (mkn_15, mvn_15, mbn_15, mpn_15) = (mkn_20, mvn_20, mbn_20, mpn_20)) (hF_20_3 : m38 frn_20 = nR 0 v_19 1 (mkn_15, mvn_15, mbn_15, mpn_15) (m38 frn_15)) (hF_20_4 : (¬ nGG ft_ mz 0 v_19 44 (mkn_15, mvn_15, mbn_15, mpn_15) → mwn_20 = nE 0 v_19 (mkn_15, mvn_15, mbn_15, mpn_15))) (f_20_1_0 : nGG ft_ mz 0 v_19 44 (mkn_15, mvn_15, mbn_15, mpn_15)) (hR_20 : okR frn_20 cq 0 0 0) (Lc : lRc ft_ mz = (((mkn_20, mvn_20, mbn_20, mpn_20), m38 frn_20), 0)) (hF_23_0 : mpn_23 ≤ mz) (hF_23_2 : nU ft_ mz 0 4 59 (mkn_20, mvn_20, mbn_20, mpn_20) = (mkn_23, mvn_23, mbn_23, mpn_23)) (hF_23_3 : m38 frn_23 = nR 0 4 2 (mkn_20, mvn_20, mbn_20, mpn_20) (m38 frn_20)) (hF_23_4 : (¬ nGG ft_ mz 0 4 59 (mkn_20, mvn_20, mbn_20, mpn_20) → mwn_23 = nE 0 4 (mkn_20, mvn_20, mbn_20, mpn_20))) (f_23_1_0 : nGG ft_ mz 0 4 59 (mkn_20, mvn_20, mbn_20, mpn_20)) (hR_23 : okR frn_23 cq 0 0 0) (Ld : lRd ft_ mz = (((mkn_23, mvn_23, mbn_23, mpn_23), m38 frn_23), 0)) (hF_26_0 : mpn_26 ≤ mz) (hF_26_2 : wS ft_ mz ((mkn_23, mvn_23, mbn_23, mpn_23), m38 frn_23) = ((mkn_26, mvn_26, mbn_26, mpn_26), m38 frn_26)) (hF_26_3 : (¬ wGG ft_ mz ((mkn_23, mvn_23, mbn_23, mpn_23), m38 frn_23) → mwn_26 = wE ft_ mz ((mkn_23, mvn_23, mbn_23, mpn_23), m38 frn_23))) (f_26_0_0 : ¬ wGG ft_ mz ((mkn_23, mvn_23, mbn_23, mpn_23), m38 frn_23)) (Lx : rR ft_ mz = (((mkn_26, mvn_26, mbn_26, mpn_26), m38 frn_26), wE ft_ mz ((mkn_23, mvn_23, mbn_23, mpn_23), m38 frn_23))) (Ln : ¬ wE ft_ mz ((mkn_23, mvn_23, mbn_23, mpn_23), m38 frn_23) = 0) : (rR ft_ mz).1 = ((mkn_26, mvn_26, mbn_26, mpn_26), m38 frn_26) := by
  first
  | (rw [Lx]; exact Ln)
  | (rw [Lx]; done)
  | (intro q_; rw [Lx]; grind)
  | grind
theorem lf_X8_readLevel_24 {mz : Nat} {ft_ : Nat → Int32} {w_3 : Nat → Int32} {g_10 : Nat → Int32} {mkn_11 : Int32} {mvn_11 : Int32} {mbn_11 : Int32} {mpn_11 : Nat} {mkn_12 : Int32} {mvn_12 : Int32} {mbn_12 : Int32} {mpn_12 : Nat} {mwn_12 : Int32} {mkn_15 : Int32} {mvn_15 : Int32} {mbn_15 : Int32} {mpn_15 : Nat} {mwn_15 : Int32} {frn_15 : Nat → Int32} {cq : Nat} {v_19 : Int32} {mkn_20 : Int32} {mvn_20 : Int32} {mbn_20 : Int32} {mpn_20 : Nat} {mwn_20 : Int32} {frn_20 : Nat → Int32} {mkn_23 : Int32} {mvn_23 : Int32} {mbn_23 : Int32} {mpn_23 : Nat} {mwn_23 : Int32} {frn_23 : Nat → Int32} {mkn_26 : Int32} {mvn_26 : Int32} {mbn_26 : Int32} {mpn_26 : Nat} {mwn_26 : Int32} {frn_26 : Nat → Int32} (hmz : mz ≤ 120) (haf_0 : (∀ j : Nat, j < 38 → w_3 j = 0)) (hu_10 : g_10 = upd w_3 6 1) (Lr : m38 g_10 = r0) (hF_11_0 : mpn_11 ≤ mz) (hF_11_1 : nT ft_ mz 0 = (mkn_11, mvn_11, mbn_11, mpn_11)) (hF_12_0 : mpn_12 ≤ mz) (hF_12_1 : kU ft_ mz 109 (mkn_11, mvn_11, mbn_11, mpn_11) = (mkn_12, mvn_12, mbn_12, mpn_12)) (hF_12_2 : (¬ kG 109 (mkn_11, mvn_11, mbn_11, mpn_11) → mwn_12 = 1)) (f_12_1_0 : kG 109 (mkn_11, mvn_11, mbn_11, mpn_11)) (La : lRa ft_ mz = (((mkn_12, mvn_12, mbn_12, mpn_12), m38 g_10), 0)) (hF_15_0 : mpn_15 ≤ mz) (hF_15_2 : nU ft_ mz 5 15 44 (mkn_12, mvn_12, mbn_12, mpn_12) = (mkn_15, mvn_15, mbn_15, mpn_15)) (hF_15_3 : m38 frn_15 = nR 5 15 0 (mkn_12, mvn_12, mbn_12, mpn_12) (m38 g_10)) (hF_15_4 : (¬ nGG ft_ mz 5 15 44 (mkn_12, mvn_12, mbn_12, mpn_12) → mwn_15 = nE 5 15 (mkn_12, mvn_12, mbn_12, mpn_12))) (f_15_1_0 : nGG ft_ mz 5 15 44 (mkn_12, mvn_12, mbn_12, mpn_12)) (hR_15 : okR frn_15 cq 0 0 0) (Lb : lRb ft_ mz = (((mkn_15, mvn_15, mbn_15, mpn_15), m38 frn_15), 0)) (L0 : m38 frn_15 0 = nI cq) (e_19 : v_19 = ((nI cq) - 1)) (hF_20_0 : mpn_20 ≤ mz) (hF_20_2 : nU ft_ mz 0 v_19 44 (mkn_15, mvn_15, mbn_15, mpn_15) = (mkn_20, mvn_20, mbn_20, mpn_20)) (hF_20_3 : m38 frn_20 = nR 0 v_19 1 (mkn_15, mvn_15, mbn_15, mpn_15) (m38 frn_15)) (hF_20_4 : (¬ nGG ft_ mz 0 v_19 44 (mkn_15, mvn_15, mbn_15, mpn_15) → mwn_20 = nE 0 v_19 (mkn_15, mvn_15, mbn_15, mpn_15))) (f_20_1_0 : nGG ft_ mz 0 v_19 44 (mkn_15, mvn_15, mbn_15, mpn_15)) (hR_20 : okR frn_20 cq 0 0 0) (Lc : lRc ft_ mz = (((mkn_20, mvn_20, mbn_20, mpn_20), m38 frn_20), 0)) (hF_23_0 : mpn_23 ≤ mz) (hF_23_2 : nU ft_ mz 0 4 59 (mkn_20, mvn_20, mbn_20, mpn_20) = (mkn_23, mvn_23, mbn_23, mpn_23)) (hF_23_3 : m38 frn_23 = nR 0 4 2 (mkn_20, mvn_20, mbn_20, mpn_20) (m38 frn_20)) (hF_23_4 : (¬ nGG ft_ mz 0 4 59 (mkn_20, mvn_20, mbn_20, mpn_20) → mwn_23 = nE 0 4 (mkn_20, mvn_20, mbn_20, mpn_20))) (f_23_1_0 : nGG ft_ mz 0 4 59 (mkn_20, mvn_20, mbn_20, mpn_20)) (hR_23 : okR frn_23 cq 0 0 0) (Ld : lRd ft_ mz = (((mkn_23, mvn_23, mbn_23, mpn_23), m38 frn_23), 0)) (hF_26_0 : mpn_26 ≤ mz) (hF_26_2 : wS ft_ mz ((mkn_23, mvn_23, mbn_23, mpn_23), m38 frn_23) = ((mkn_26, mvn_26, mbn_26, mpn_26), m38 frn_26)) (hF_26_3 : (¬ wGG ft_ mz ((mkn_23, mvn_23, mbn_23, mpn_23), m38 frn_23) → mwn_26 = wE ft_ mz ((mkn_23, mvn_23, mbn_23, mpn_23), m38 frn_23))) (f_26_0_0 : ¬ wGG ft_ mz ((mkn_23, mvn_23, mbn_23, mpn_23), m38 frn_23)) (Lx : rR ft_ mz = (((mkn_26, mvn_26, mbn_26, mpn_26), m38 frn_26), wE ft_ mz ((mkn_23, mvn_23, mbn_23, mpn_23), m38 frn_23))) (Ln : ¬ wE ft_ mz ((mkn_23, mvn_23, mbn_23, mpn_23), m38 frn_23) = 0) : (¬ (rR ft_ mz).2 = 0 → mwn_26 = (rR ft_ mz).2) := by
  first
  | (rw [Lx]; exact Ln)
  | (rw [Lx]; done)
  | (intro q_; rw [Lx]; grind)
  | grind
theorem lf_X8_readLevel_25 {mz : Nat} {ft_ : Nat → Int32} {w_3 : Nat → Int32} {g_10 : Nat → Int32} {mkn_11 : Int32} {mvn_11 : Int32} {mbn_11 : Int32} {mpn_11 : Nat} {mkn_12 : Int32} {mvn_12 : Int32} {mbn_12 : Int32} {mpn_12 : Nat} {mwn_12 : Int32} {mkn_15 : Int32} {mvn_15 : Int32} {mbn_15 : Int32} {mpn_15 : Nat} {mwn_15 : Int32} {frn_15 : Nat → Int32} {cq : Nat} {v_19 : Int32} {mkn_20 : Int32} {mvn_20 : Int32} {mbn_20 : Int32} {mpn_20 : Nat} {mwn_20 : Int32} {frn_20 : Nat → Int32} {mkn_23 : Int32} {mvn_23 : Int32} {mbn_23 : Int32} {mpn_23 : Nat} {mwn_23 : Int32} {frn_23 : Nat → Int32} {mkn_26 : Int32} {mvn_26 : Int32} {mbn_26 : Int32} {mpn_26 : Nat} {mwn_26 : Int32} {frn_26 : Nat → Int32} (hmz : mz ≤ 120) (haf_0 : (∀ j : Nat, j < 38 → w_3 j = 0)) (hu_10 : g_10 = upd w_3 6 1) (Lr : m38 g_10 = r0) (hF_11_0 : mpn_11 ≤ mz) (hF_11_1 : nT ft_ mz 0 = (mkn_11, mvn_11, mbn_11, mpn_11)) (hF_12_0 : mpn_12 ≤ mz) (hF_12_1 : kU ft_ mz 109 (mkn_11, mvn_11, mbn_11, mpn_11) = (mkn_12, mvn_12, mbn_12, mpn_12)) (hF_12_2 : (¬ kG 109 (mkn_11, mvn_11, mbn_11, mpn_11) → mwn_12 = 1)) (f_12_1_0 : kG 109 (mkn_11, mvn_11, mbn_11, mpn_11)) (La : lRa ft_ mz = (((mkn_12, mvn_12, mbn_12, mpn_12), m38 g_10), 0)) (hF_15_0 : mpn_15 ≤ mz) (hF_15_2 : nU ft_ mz 5 15 44 (mkn_12, mvn_12, mbn_12, mpn_12) = (mkn_15, mvn_15, mbn_15, mpn_15)) (hF_15_3 : m38 frn_15 = nR 5 15 0 (mkn_12, mvn_12, mbn_12, mpn_12) (m38 g_10)) (hF_15_4 : (¬ nGG ft_ mz 5 15 44 (mkn_12, mvn_12, mbn_12, mpn_12) → mwn_15 = nE 5 15 (mkn_12, mvn_12, mbn_12, mpn_12))) (f_15_1_0 : nGG ft_ mz 5 15 44 (mkn_12, mvn_12, mbn_12, mpn_12)) (hR_15 : okR frn_15 cq 0 0 0) (Lb : lRb ft_ mz = (((mkn_15, mvn_15, mbn_15, mpn_15), m38 frn_15), 0)) (L0 : m38 frn_15 0 = nI cq) (e_19 : v_19 = ((nI cq) - 1)) (hF_20_0 : mpn_20 ≤ mz) (hF_20_2 : nU ft_ mz 0 v_19 44 (mkn_15, mvn_15, mbn_15, mpn_15) = (mkn_20, mvn_20, mbn_20, mpn_20)) (hF_20_3 : m38 frn_20 = nR 0 v_19 1 (mkn_15, mvn_15, mbn_15, mpn_15) (m38 frn_15)) (hF_20_4 : (¬ nGG ft_ mz 0 v_19 44 (mkn_15, mvn_15, mbn_15, mpn_15) → mwn_20 = nE 0 v_19 (mkn_15, mvn_15, mbn_15, mpn_15))) (f_20_1_0 : nGG ft_ mz 0 v_19 44 (mkn_15, mvn_15, mbn_15, mpn_15)) (hR_20 : okR frn_20 cq 0 0 0) (Lc : lRc ft_ mz = (((mkn_20, mvn_20, mbn_20, mpn_20), m38 frn_20), 0)) (hF_23_0 : mpn_23 ≤ mz) (hF_23_2 : nU ft_ mz 0 4 59 (mkn_20, mvn_20, mbn_20, mpn_20) = (mkn_23, mvn_23, mbn_23, mpn_23)) (hF_23_3 : m38 frn_23 = nR 0 4 2 (mkn_20, mvn_20, mbn_20, mpn_20) (m38 frn_20)) (hF_23_4 : (¬ nGG ft_ mz 0 4 59 (mkn_20, mvn_20, mbn_20, mpn_20) → mwn_23 = nE 0 4 (mkn_20, mvn_20, mbn_20, mpn_20))) (f_23_1_0 : nGG ft_ mz 0 4 59 (mkn_20, mvn_20, mbn_20, mpn_20)) (hR_23 : okR frn_23 cq 0 0 0) (Ld : lRd ft_ mz = (((mkn_23, mvn_23, mbn_23, mpn_23), m38 frn_23), 0)) (hF_26_0 : mpn_26 ≤ mz) (hF_26_2 : wS ft_ mz ((mkn_23, mvn_23, mbn_23, mpn_23), m38 frn_23) = ((mkn_26, mvn_26, mbn_26, mpn_26), m38 frn_26)) (hF_26_3 : (¬ wGG ft_ mz ((mkn_23, mvn_23, mbn_23, mpn_23), m38 frn_23) → mwn_26 = wE ft_ mz ((mkn_23, mvn_23, mbn_23, mpn_23), m38 frn_23))) (f_26_0_0 : ¬ wGG ft_ mz ((mkn_23, mvn_23, mbn_23, mpn_23), m38 frn_23)) (Lx : rR ft_ mz = (((mkn_26, mvn_26, mbn_26, mpn_26), m38 frn_26), wE ft_ mz ((mkn_23, mvn_23, mbn_23, mpn_23), m38 frn_23))) (Ln : ¬ wE ft_ mz ((mkn_23, mvn_23, mbn_23, mpn_23), m38 frn_23) = 0) : ¬ (rR ft_ mz).2 = 0 := by
  first
  | (rw [Lx]; exact Ln)
  | (rw [Lx]; done)
  | (intro q_; rw [Lx]; grind)
  | grind
theorem lf_X8_readLevel_26 {mz : Nat} {ft_ : Nat → Int32} {w_3 : Nat → Int32} {g_10 : Nat → Int32} {mkn_11 : Int32} {mvn_11 : Int32} {mbn_11 : Int32} {mpn_11 : Nat} {mkn_12 : Int32} {mvn_12 : Int32} {mbn_12 : Int32} {mpn_12 : Nat} {mwn_12 : Int32} {mkn_15 : Int32} {mvn_15 : Int32} {mbn_15 : Int32} {mpn_15 : Nat} {mwn_15 : Int32} {frn_15 : Nat → Int32} {cq : Nat} {v_19 : Int32} {mkn_20 : Int32} {mvn_20 : Int32} {mbn_20 : Int32} {mpn_20 : Nat} {mwn_20 : Int32} {frn_20 : Nat → Int32} {mkn_23 : Int32} {mvn_23 : Int32} {mbn_23 : Int32} {mpn_23 : Nat} {mwn_23 : Int32} {frn_23 : Nat → Int32} {mkn_26 : Int32} {mvn_26 : Int32} {mbn_26 : Int32} {mpn_26 : Nat} {mwn_26 : Int32} {frn_26 : Nat → Int32} (hmz : mz ≤ 120) (haf_0 : (∀ j : Nat, j < 38 → w_3 j = 0)) (hu_10 : g_10 = upd w_3 6 1) (Lr : m38 g_10 = r0) (hF_11_0 : mpn_11 ≤ mz) (hF_11_1 : nT ft_ mz 0 = (mkn_11, mvn_11, mbn_11, mpn_11)) (hF_12_0 : mpn_12 ≤ mz) (hF_12_1 : kU ft_ mz 109 (mkn_11, mvn_11, mbn_11, mpn_11) = (mkn_12, mvn_12, mbn_12, mpn_12)) (hF_12_2 : (¬ kG 109 (mkn_11, mvn_11, mbn_11, mpn_11) → mwn_12 = 1)) (f_12_1_0 : kG 109 (mkn_11, mvn_11, mbn_11, mpn_11)) (La : lRa ft_ mz = (((mkn_12, mvn_12, mbn_12, mpn_12), m38 g_10), 0)) (hF_15_0 : mpn_15 ≤ mz) (hF_15_2 : nU ft_ mz 5 15 44 (mkn_12, mvn_12, mbn_12, mpn_12) = (mkn_15, mvn_15, mbn_15, mpn_15)) (hF_15_3 : m38 frn_15 = nR 5 15 0 (mkn_12, mvn_12, mbn_12, mpn_12) (m38 g_10)) (hF_15_4 : (¬ nGG ft_ mz 5 15 44 (mkn_12, mvn_12, mbn_12, mpn_12) → mwn_15 = nE 5 15 (mkn_12, mvn_12, mbn_12, mpn_12))) (f_15_1_0 : nGG ft_ mz 5 15 44 (mkn_12, mvn_12, mbn_12, mpn_12)) (hR_15 : okR frn_15 cq 0 0 0) (Lb : lRb ft_ mz = (((mkn_15, mvn_15, mbn_15, mpn_15), m38 frn_15), 0)) (L0 : m38 frn_15 0 = nI cq) (e_19 : v_19 = ((nI cq) - 1)) (hF_20_0 : mpn_20 ≤ mz) (hF_20_2 : nU ft_ mz 0 v_19 44 (mkn_15, mvn_15, mbn_15, mpn_15) = (mkn_20, mvn_20, mbn_20, mpn_20)) (hF_20_3 : m38 frn_20 = nR 0 v_19 1 (mkn_15, mvn_15, mbn_15, mpn_15) (m38 frn_15)) (hF_20_4 : (¬ nGG ft_ mz 0 v_19 44 (mkn_15, mvn_15, mbn_15, mpn_15) → mwn_20 = nE 0 v_19 (mkn_15, mvn_15, mbn_15, mpn_15))) (f_20_1_0 : nGG ft_ mz 0 v_19 44 (mkn_15, mvn_15, mbn_15, mpn_15)) (hR_20 : okR frn_20 cq 0 0 0) (Lc : lRc ft_ mz = (((mkn_20, mvn_20, mbn_20, mpn_20), m38 frn_20), 0)) (hF_23_0 : mpn_23 ≤ mz) (hF_23_2 : nU ft_ mz 0 4 59 (mkn_20, mvn_20, mbn_20, mpn_20) = (mkn_23, mvn_23, mbn_23, mpn_23)) (hF_23_3 : m38 frn_23 = nR 0 4 2 (mkn_20, mvn_20, mbn_20, mpn_20) (m38 frn_20)) (hF_23_4 : (¬ nGG ft_ mz 0 4 59 (mkn_20, mvn_20, mbn_20, mpn_20) → mwn_23 = nE 0 4 (mkn_20, mvn_20, mbn_20, mpn_20))) (f_23_1_0 : nGG ft_ mz 0 4 59 (mkn_20, mvn_20, mbn_20, mpn_20)) (hR_23 : okR frn_23 cq 0 0 0) (Ld : lRd ft_ mz = (((mkn_23, mvn_23, mbn_23, mpn_23), m38 frn_23), 0)) (hF_26_0 : mpn_26 ≤ mz) (hF_26_2 : wS ft_ mz ((mkn_23, mvn_23, mbn_23, mpn_23), m38 frn_23) = ((mkn_26, mvn_26, mbn_26, mpn_26), m38 frn_26)) (hF_26_3 : (¬ wGG ft_ mz ((mkn_23, mvn_23, mbn_23, mpn_23), m38 frn_23) → mwn_26 = wE ft_ mz ((mkn_23, mvn_23, mbn_23, mpn_23), m38 frn_23))) (f_26_1_0 : wGG ft_ mz ((mkn_23, mvn_23, mbn_23, mpn_23), m38 frn_23)) (hR_26 : okR frn_26 cq (0 + 1) 0 0) : lRe ft_ mz = (((mkn_26, mvn_26, mbn_26, mpn_26), m38 frn_26), 0) := by
  simp only [lRe, Ld, mB, wR]; grind
theorem lf_X8_readLevel_27 {mz : Nat} {ft_ : Nat → Int32} {w_3 : Nat → Int32} {g_10 : Nat → Int32} {mkn_11 : Int32} {mvn_11 : Int32} {mbn_11 : Int32} {mpn_11 : Nat} {mkn_12 : Int32} {mvn_12 : Int32} {mbn_12 : Int32} {mpn_12 : Nat} {mwn_12 : Int32} {mkn_15 : Int32} {mvn_15 : Int32} {mbn_15 : Int32} {mpn_15 : Nat} {mwn_15 : Int32} {frn_15 : Nat → Int32} {cq : Nat} {v_19 : Int32} {mkn_20 : Int32} {mvn_20 : Int32} {mbn_20 : Int32} {mpn_20 : Nat} {mwn_20 : Int32} {frn_20 : Nat → Int32} {mkn_23 : Int32} {mvn_23 : Int32} {mbn_23 : Int32} {mpn_23 : Nat} {mwn_23 : Int32} {frn_23 : Nat → Int32} {mkn_26 : Int32} {mvn_26 : Int32} {mbn_26 : Int32} {mpn_26 : Nat} {mwn_26 : Int32} {frn_26 : Nat → Int32} (hmz : mz ≤ 120) (haf_0 : (∀ j : Nat, j < 38 → w_3 j = 0)) (hu_10 : g_10 = upd w_3 6 1) (Lr : m38 g_10 = r0) (hF_11_0 : mpn_11 ≤ mz) (hF_11_1 : nT ft_ mz 0 = (mkn_11, mvn_11, mbn_11, mpn_11)) (hF_12_0 : mpn_12 ≤ mz) (hF_12_1 : kU ft_ mz 109 (mkn_11, mvn_11, mbn_11, mpn_11) = (mkn_12, mvn_12, mbn_12, mpn_12)) (hF_12_2 : (¬ kG 109 (mkn_11, mvn_11, mbn_11, mpn_11) → mwn_12 = 1)) (f_12_1_0 : kG 109 (mkn_11, mvn_11, mbn_11, mpn_11)) (La : lRa ft_ mz = (((mkn_12, mvn_12, mbn_12, mpn_12), m38 g_10), 0)) (hF_15_0 : mpn_15 ≤ mz) (hF_15_2 : nU ft_ mz 5 15 44 (mkn_12, mvn_12, mbn_12, mpn_12) = (mkn_15, mvn_15, mbn_15, mpn_15)) (hF_15_3 : m38 frn_15 = nR 5 15 0 (mkn_12, mvn_12, mbn_12, mpn_12) (m38 g_10)) (hF_15_4 : (¬ nGG ft_ mz 5 15 44 (mkn_12, mvn_12, mbn_12, mpn_12) → mwn_15 = nE 5 15 (mkn_12, mvn_12, mbn_12, mpn_12))) (f_15_1_0 : nGG ft_ mz 5 15 44 (mkn_12, mvn_12, mbn_12, mpn_12)) (hR_15 : okR frn_15 cq 0 0 0) (Lb : lRb ft_ mz = (((mkn_15, mvn_15, mbn_15, mpn_15), m38 frn_15), 0)) (L0 : m38 frn_15 0 = nI cq) (e_19 : v_19 = ((nI cq) - 1)) (hF_20_0 : mpn_20 ≤ mz) (hF_20_2 : nU ft_ mz 0 v_19 44 (mkn_15, mvn_15, mbn_15, mpn_15) = (mkn_20, mvn_20, mbn_20, mpn_20)) (hF_20_3 : m38 frn_20 = nR 0 v_19 1 (mkn_15, mvn_15, mbn_15, mpn_15) (m38 frn_15)) (hF_20_4 : (¬ nGG ft_ mz 0 v_19 44 (mkn_15, mvn_15, mbn_15, mpn_15) → mwn_20 = nE 0 v_19 (mkn_15, mvn_15, mbn_15, mpn_15))) (f_20_1_0 : nGG ft_ mz 0 v_19 44 (mkn_15, mvn_15, mbn_15, mpn_15)) (hR_20 : okR frn_20 cq 0 0 0) (Lc : lRc ft_ mz = (((mkn_20, mvn_20, mbn_20, mpn_20), m38 frn_20), 0)) (hF_23_0 : mpn_23 ≤ mz) (hF_23_2 : nU ft_ mz 0 4 59 (mkn_20, mvn_20, mbn_20, mpn_20) = (mkn_23, mvn_23, mbn_23, mpn_23)) (hF_23_3 : m38 frn_23 = nR 0 4 2 (mkn_20, mvn_20, mbn_20, mpn_20) (m38 frn_20)) (hF_23_4 : (¬ nGG ft_ mz 0 4 59 (mkn_20, mvn_20, mbn_20, mpn_20) → mwn_23 = nE 0 4 (mkn_20, mvn_20, mbn_20, mpn_20))) (f_23_1_0 : nGG ft_ mz 0 4 59 (mkn_20, mvn_20, mbn_20, mpn_20)) (hR_23 : okR frn_23 cq 0 0 0) (Ld : lRd ft_ mz = (((mkn_23, mvn_23, mbn_23, mpn_23), m38 frn_23), 0)) (hF_26_0 : mpn_26 ≤ mz) (hF_26_2 : wS ft_ mz ((mkn_23, mvn_23, mbn_23, mpn_23), m38 frn_23) = ((mkn_26, mvn_26, mbn_26, mpn_26), m38 frn_26)) (hF_26_3 : (¬ wGG ft_ mz ((mkn_23, mvn_23, mbn_23, mpn_23), m38 frn_23) → mwn_26 = wE ft_ mz ((mkn_23, mvn_23, mbn_23, mpn_23), m38 frn_23))) (f_26_1_0 : wGG ft_ mz ((mkn_23, mvn_23, mbn_23, mpn_23), m38 frn_23)) (hR_26 : okR frn_26 cq (0 + 1) 0 0) (Le : lRe ft_ mz = (((mkn_26, mvn_26, mbn_26, mpn_26), m38 frn_26), 0)) : wL ft_ mz (7 - (0 + 1)) (((mkn_26, mvn_26, mbn_26, mpn_26), m38 frn_26), 0) = wL ft_ mz 6 (lRe ft_ mz) := by
  rw [Le]
theorem lf_X8_readLevel_28 {mz : Nat} {ft_ : Nat → Int32} {w_3 : Nat → Int32} {g_10 : Nat → Int32} {mkn_11 : Int32} {mvn_11 : Int32} {mbn_11 : Int32} {mpn_11 : Nat} {mkn_12 : Int32} {mvn_12 : Int32} {mbn_12 : Int32} {mpn_12 : Nat} {mwn_12 : Int32} {mkn_15 : Int32} {mvn_15 : Int32} {mbn_15 : Int32} {mpn_15 : Nat} {mwn_15 : Int32} {frn_15 : Nat → Int32} {cq : Nat} {v_19 : Int32} {mkn_20 : Int32} {mvn_20 : Int32} {mbn_20 : Int32} {mpn_20 : Nat} {mwn_20 : Int32} {frn_20 : Nat → Int32} {mkn_23 : Int32} {mvn_23 : Int32} {mbn_23 : Int32} {mpn_23 : Nat} {mwn_23 : Int32} {frn_23 : Nat → Int32} {mkn_26 : Int32} {mvn_26 : Int32} {mbn_26 : Int32} {mpn_26 : Nat} {mwn_26 : Int32} {frn_26 : Nat → Int32} {w_107 : Nat} {w_108 : Int32} {w_109 : Int32} {w_110 : Int32} {w_112 : Nat → Int32} {W_ : Nat} (hmz : mz ≤ 120) (hu_10 : g_10 = upd w_3 6 1) (Lr : m38 g_10 = r0) (hF_11_0 : mpn_11 ≤ mz) (hF_11_1 : nT ft_ mz 0 = (mkn_11, mvn_11, mbn_11, mpn_11)) (hF_12_0 : mpn_12 ≤ mz) (hF_12_1 : kU ft_ mz 109 (mkn_11, mvn_11, mbn_11, mpn_11) = (mkn_12, mvn_12, mbn_12, mpn_12)) (hF_12_2 : (¬ kG 109 (mkn_11, mvn_11, mbn_11, mpn_11) → mwn_12 = 1)) (f_12_1_0 : kG 109 (mkn_11, mvn_11, mbn_11, mpn_11)) (La : lRa ft_ mz = (((mkn_12, mvn_12, mbn_12, mpn_12), m38 g_10), 0)) (hF_15_0 : mpn_15 ≤ mz) (hF_15_2 : nU ft_ mz 5 15 44 (mkn_12, mvn_12, mbn_12, mpn_12) = (mkn_15, mvn_15, mbn_15, mpn_15)) (hF_15_3 : m38 frn_15 = nR 5 15 0 (mkn_12, mvn_12, mbn_12, mpn_12) (m38 g_10)) (hF_15_4 : (¬ nGG ft_ mz 5 15 44 (mkn_12, mvn_12, mbn_12, mpn_12) → mwn_15 = nE 5 15 (mkn_12, mvn_12, mbn_12, mpn_12))) (f_15_1_0 : nGG ft_ mz 5 15 44 (mkn_12, mvn_12, mbn_12, mpn_12)) (hR_15 : okR frn_15 cq 0 0 0) (Lb : lRb ft_ mz = (((mkn_15, mvn_15, mbn_15, mpn_15), m38 frn_15), 0)) (L0 : m38 frn_15 0 = nI cq) (e_19 : v_19 = ((nI cq) - 1)) (hF_20_0 : mpn_20 ≤ mz) (hF_20_2 : nU ft_ mz 0 v_19 44 (mkn_15, mvn_15, mbn_15, mpn_15) = (mkn_20, mvn_20, mbn_20, mpn_20)) (hF_20_3 : m38 frn_20 = nR 0 v_19 1 (mkn_15, mvn_15, mbn_15, mpn_15) (m38 frn_15)) (hF_20_4 : (¬ nGG ft_ mz 0 v_19 44 (mkn_15, mvn_15, mbn_15, mpn_15) → mwn_20 = nE 0 v_19 (mkn_15, mvn_15, mbn_15, mpn_15))) (f_20_1_0 : nGG ft_ mz 0 v_19 44 (mkn_15, mvn_15, mbn_15, mpn_15)) (hR_20 : okR frn_20 cq 0 0 0) (Lc : lRc ft_ mz = (((mkn_20, mvn_20, mbn_20, mpn_20), m38 frn_20), 0)) (hF_23_0 : mpn_23 ≤ mz) (hF_23_2 : nU ft_ mz 0 4 59 (mkn_20, mvn_20, mbn_20, mpn_20) = (mkn_23, mvn_23, mbn_23, mpn_23)) (hF_23_3 : m38 frn_23 = nR 0 4 2 (mkn_20, mvn_20, mbn_20, mpn_20) (m38 frn_20)) (hF_23_4 : (¬ nGG ft_ mz 0 4 59 (mkn_20, mvn_20, mbn_20, mpn_20) → mwn_23 = nE 0 4 (mkn_20, mvn_20, mbn_20, mpn_20))) (f_23_1_0 : nGG ft_ mz 0 4 59 (mkn_20, mvn_20, mbn_20, mpn_20)) (hR_23 : okR frn_23 cq 0 0 0) (Ld : lRd ft_ mz = (((mkn_23, mvn_23, mbn_23, mpn_23), m38 frn_23), 0)) (hF_26_0 : mpn_26 ≤ mz) (hF_26_2 : wS ft_ mz ((mkn_23, mvn_23, mbn_23, mpn_23), m38 frn_23) = ((mkn_26, mvn_26, mbn_26, mpn_26), m38 frn_26)) (hF_26_3 : (¬ wGG ft_ mz ((mkn_23, mvn_23, mbn_23, mpn_23), m38 frn_23) → mwn_26 = wE ft_ mz ((mkn_23, mvn_23, mbn_23, mpn_23), m38 frn_23))) (f_26_1_0 : wGG ft_ mz ((mkn_23, mvn_23, mbn_23, mpn_23), m38 frn_23)) (hR_26 : okR frn_26 cq (0 + 1) 0 0) (Le : lRe ft_ mz = (((mkn_26, mvn_26, mbn_26, mpn_26), m38 frn_26), 0)) (hnb_w_107 : w_107 ≤ mz) (hW6 : W_ ≤ 6) (hLw : wL ft_ mz (7 - W_) (((w_108, w_109, w_110, w_107), m38 w_112), 0) = wL ft_ mz 6 (lRe ft_ mz)) (c_198 : ¬ (w_108 = 1)) : wL ft_ mz 6 (lRe ft_ mz) = (((w_108, w_109, w_110, w_107), m38 w_112), 0) := by
  rw [← hLw]
  exact wL_stop (fun q => by have q2 := q.2; grind)
theorem lf_X8_readLevel_29 {mz : Nat} {ft_ : Nat → Int32} {w_3 : Nat → Int32} {g_10 : Nat → Int32} {mkn_11 : Int32} {mvn_11 : Int32} {mbn_11 : Int32} {mpn_11 : Nat} {mkn_12 : Int32} {mvn_12 : Int32} {mbn_12 : Int32} {mpn_12 : Nat} {mwn_12 : Int32} {mkn_15 : Int32} {mvn_15 : Int32} {mbn_15 : Int32} {mpn_15 : Nat} {mwn_15 : Int32} {frn_15 : Nat → Int32} {cq : Nat} {v_19 : Int32} {mkn_20 : Int32} {mvn_20 : Int32} {mbn_20 : Int32} {mpn_20 : Nat} {mwn_20 : Int32} {frn_20 : Nat → Int32} {mkn_23 : Int32} {mvn_23 : Int32} {mbn_23 : Int32} {mpn_23 : Nat} {mwn_23 : Int32} {frn_23 : Nat → Int32} {mkn_26 : Int32} {mvn_26 : Int32} {mbn_26 : Int32} {mpn_26 : Nat} {mwn_26 : Int32} {frn_26 : Nat → Int32} {w_107 : Nat} {w_108 : Int32} {w_109 : Int32} {w_110 : Int32} {w_112 : Nat → Int32} {W_ : Nat} (hmz : mz ≤ 120) (hu_10 : g_10 = upd w_3 6 1) (Lr : m38 g_10 = r0) (hF_11_0 : mpn_11 ≤ mz) (hF_11_1 : nT ft_ mz 0 = (mkn_11, mvn_11, mbn_11, mpn_11)) (hF_12_0 : mpn_12 ≤ mz) (hF_12_1 : kU ft_ mz 109 (mkn_11, mvn_11, mbn_11, mpn_11) = (mkn_12, mvn_12, mbn_12, mpn_12)) (hF_12_2 : (¬ kG 109 (mkn_11, mvn_11, mbn_11, mpn_11) → mwn_12 = 1)) (f_12_1_0 : kG 109 (mkn_11, mvn_11, mbn_11, mpn_11)) (La : lRa ft_ mz = (((mkn_12, mvn_12, mbn_12, mpn_12), m38 g_10), 0)) (hF_15_0 : mpn_15 ≤ mz) (hF_15_2 : nU ft_ mz 5 15 44 (mkn_12, mvn_12, mbn_12, mpn_12) = (mkn_15, mvn_15, mbn_15, mpn_15)) (hF_15_3 : m38 frn_15 = nR 5 15 0 (mkn_12, mvn_12, mbn_12, mpn_12) (m38 g_10)) (hF_15_4 : (¬ nGG ft_ mz 5 15 44 (mkn_12, mvn_12, mbn_12, mpn_12) → mwn_15 = nE 5 15 (mkn_12, mvn_12, mbn_12, mpn_12))) (f_15_1_0 : nGG ft_ mz 5 15 44 (mkn_12, mvn_12, mbn_12, mpn_12)) (hR_15 : okR frn_15 cq 0 0 0) (Lb : lRb ft_ mz = (((mkn_15, mvn_15, mbn_15, mpn_15), m38 frn_15), 0)) (L0 : m38 frn_15 0 = nI cq) (e_19 : v_19 = ((nI cq) - 1)) (hF_20_0 : mpn_20 ≤ mz) (hF_20_2 : nU ft_ mz 0 v_19 44 (mkn_15, mvn_15, mbn_15, mpn_15) = (mkn_20, mvn_20, mbn_20, mpn_20)) (hF_20_3 : m38 frn_20 = nR 0 v_19 1 (mkn_15, mvn_15, mbn_15, mpn_15) (m38 frn_15)) (hF_20_4 : (¬ nGG ft_ mz 0 v_19 44 (mkn_15, mvn_15, mbn_15, mpn_15) → mwn_20 = nE 0 v_19 (mkn_15, mvn_15, mbn_15, mpn_15))) (f_20_1_0 : nGG ft_ mz 0 v_19 44 (mkn_15, mvn_15, mbn_15, mpn_15)) (hR_20 : okR frn_20 cq 0 0 0) (Lc : lRc ft_ mz = (((mkn_20, mvn_20, mbn_20, mpn_20), m38 frn_20), 0)) (hF_23_0 : mpn_23 ≤ mz) (hF_23_2 : nU ft_ mz 0 4 59 (mkn_20, mvn_20, mbn_20, mpn_20) = (mkn_23, mvn_23, mbn_23, mpn_23)) (hF_23_3 : m38 frn_23 = nR 0 4 2 (mkn_20, mvn_20, mbn_20, mpn_20) (m38 frn_20)) (hF_23_4 : (¬ nGG ft_ mz 0 4 59 (mkn_20, mvn_20, mbn_20, mpn_20) → mwn_23 = nE 0 4 (mkn_20, mvn_20, mbn_20, mpn_20))) (f_23_1_0 : nGG ft_ mz 0 4 59 (mkn_20, mvn_20, mbn_20, mpn_20)) (hR_23 : okR frn_23 cq 0 0 0) (Ld : lRd ft_ mz = (((mkn_23, mvn_23, mbn_23, mpn_23), m38 frn_23), 0)) (hF_26_0 : mpn_26 ≤ mz) (hF_26_2 : wS ft_ mz ((mkn_23, mvn_23, mbn_23, mpn_23), m38 frn_23) = ((mkn_26, mvn_26, mbn_26, mpn_26), m38 frn_26)) (hF_26_3 : (¬ wGG ft_ mz ((mkn_23, mvn_23, mbn_23, mpn_23), m38 frn_23) → mwn_26 = wE ft_ mz ((mkn_23, mvn_23, mbn_23, mpn_23), m38 frn_23))) (f_26_1_0 : wGG ft_ mz ((mkn_23, mvn_23, mbn_23, mpn_23), m38 frn_23)) (hR_26 : okR frn_26 cq (0 + 1) 0 0) (Le : lRe ft_ mz = (((mkn_26, mvn_26, mbn_26, mpn_26), m38 frn_26), 0)) (hnb_w_107 : w_107 ≤ mz) (hW6 : W_ ≤ 6) (hLw : wL ft_ mz (7 - W_) (((w_108, w_109, w_110, w_107), m38 w_112), 0) = wL ft_ mz 6 (lRe ft_ mz)) (c_198 : ¬ (w_108 = 1)) (LW : wL ft_ mz 6 (lRe ft_ mz) = (((w_108, w_109, w_110, w_107), m38 w_112), 0)) : sL ft_ mz (7 - 0) (((w_108, w_109, w_110, w_107), m38 w_112), 0) = rR ft_ mz := by
  unfold rR
  rw [LW]
theorem lf_X8_readLevel_30 {mz : Nat} {ft_ : Nat → Int32} {w_3 : Nat → Int32} {g_10 : Nat → Int32} {mkn_11 : Int32} {mvn_11 : Int32} {mbn_11 : Int32} {mpn_11 : Nat} {mkn_12 : Int32} {mvn_12 : Int32} {mbn_12 : Int32} {mpn_12 : Nat} {mwn_12 : Int32} {mkn_15 : Int32} {mvn_15 : Int32} {mbn_15 : Int32} {mpn_15 : Nat} {mwn_15 : Int32} {frn_15 : Nat → Int32} {cq : Nat} {v_19 : Int32} {mkn_20 : Int32} {mvn_20 : Int32} {mbn_20 : Int32} {mpn_20 : Nat} {mwn_20 : Int32} {frn_20 : Nat → Int32} {mkn_23 : Int32} {mvn_23 : Int32} {mbn_23 : Int32} {mpn_23 : Nat} {mwn_23 : Int32} {frn_23 : Nat → Int32} {mkn_26 : Int32} {mvn_26 : Int32} {mbn_26 : Int32} {mpn_26 : Nat} {mwn_26 : Int32} {frn_26 : Nat → Int32} {w_107 : Nat} {w_108 : Int32} {w_109 : Int32} {w_110 : Int32} {w_112 : Nat → Int32} {W_ : Nat} {w_207 : Nat} {w_208 : Int32} {w_209 : Int32} {w_210 : Int32} {w_212 : Nat → Int32} {K_ : Nat} {mkn_229 : Int32} {mvn_229 : Int32} {mbn_229 : Int32} {mpn_229 : Nat} {mwn_229 : Int32} {frn_229 : Nat → Int32} (hmz : mz ≤ 120) (hu_10 : g_10 = upd w_3 6 1) (Lr : m38 g_10 = r0) (hF_11_0 : mpn_11 ≤ mz) (hF_11_1 : nT ft_ mz 0 = (mkn_11, mvn_11, mbn_11, mpn_11)) (hF_12_0 : mpn_12 ≤ mz) (hF_12_1 : kU ft_ mz 109 (mkn_11, mvn_11, mbn_11, mpn_11) = (mkn_12, mvn_12, mbn_12, mpn_12)) (hF_12_2 : (¬ kG 109 (mkn_11, mvn_11, mbn_11, mpn_11) → mwn_12 = 1)) (f_12_1_0 : kG 109 (mkn_11, mvn_11, mbn_11, mpn_11)) (La : lRa ft_ mz = (((mkn_12, mvn_12, mbn_12, mpn_12), m38 g_10), 0)) (hF_15_0 : mpn_15 ≤ mz) (hF_15_2 : nU ft_ mz 5 15 44 (mkn_12, mvn_12, mbn_12, mpn_12) = (mkn_15, mvn_15, mbn_15, mpn_15)) (hF_15_3 : m38 frn_15 = nR 5 15 0 (mkn_12, mvn_12, mbn_12, mpn_12) (m38 g_10)) (hF_15_4 : (¬ nGG ft_ mz 5 15 44 (mkn_12, mvn_12, mbn_12, mpn_12) → mwn_15 = nE 5 15 (mkn_12, mvn_12, mbn_12, mpn_12))) (f_15_1_0 : nGG ft_ mz 5 15 44 (mkn_12, mvn_12, mbn_12, mpn_12)) (hR_15 : okR frn_15 cq 0 0 0) (Lb : lRb ft_ mz = (((mkn_15, mvn_15, mbn_15, mpn_15), m38 frn_15), 0)) (L0 : m38 frn_15 0 = nI cq) (e_19 : v_19 = ((nI cq) - 1)) (hF_20_0 : mpn_20 ≤ mz) (hF_20_2 : nU ft_ mz 0 v_19 44 (mkn_15, mvn_15, mbn_15, mpn_15) = (mkn_20, mvn_20, mbn_20, mpn_20)) (hF_20_3 : m38 frn_20 = nR 0 v_19 1 (mkn_15, mvn_15, mbn_15, mpn_15) (m38 frn_15)) (hF_20_4 : (¬ nGG ft_ mz 0 v_19 44 (mkn_15, mvn_15, mbn_15, mpn_15) → mwn_20 = nE 0 v_19 (mkn_15, mvn_15, mbn_15, mpn_15))) (f_20_1_0 : nGG ft_ mz 0 v_19 44 (mkn_15, mvn_15, mbn_15, mpn_15)) (hR_20 : okR frn_20 cq 0 0 0) (Lc : lRc ft_ mz = (((mkn_20, mvn_20, mbn_20, mpn_20), m38 frn_20), 0)) (hF_23_0 : mpn_23 ≤ mz) (hF_23_2 : nU ft_ mz 0 4 59 (mkn_20, mvn_20, mbn_20, mpn_20) = (mkn_23, mvn_23, mbn_23, mpn_23)) (hF_23_3 : m38 frn_23 = nR 0 4 2 (mkn_20, mvn_20, mbn_20, mpn_20) (m38 frn_20)) (hF_23_4 : (¬ nGG ft_ mz 0 4 59 (mkn_20, mvn_20, mbn_20, mpn_20) → mwn_23 = nE 0 4 (mkn_20, mvn_20, mbn_20, mpn_20))) (f_23_1_0 : nGG ft_ mz 0 4 59 (mkn_20, mvn_20, mbn_20, mpn_20)) (hR_23 : okR frn_23 cq 0 0 0) (Ld : lRd ft_ mz = (((mkn_23, mvn_23, mbn_23, mpn_23), m38 frn_23), 0)) (hF_26_0 : mpn_26 ≤ mz) (hF_26_2 : wS ft_ mz ((mkn_23, mvn_23, mbn_23, mpn_23), m38 frn_23) = ((mkn_26, mvn_26, mbn_26, mpn_26), m38 frn_26)) (hF_26_3 : (¬ wGG ft_ mz ((mkn_23, mvn_23, mbn_23, mpn_23), m38 frn_23) → mwn_26 = wE ft_ mz ((mkn_23, mvn_23, mbn_23, mpn_23), m38 frn_23))) (f_26_1_0 : wGG ft_ mz ((mkn_23, mvn_23, mbn_23, mpn_23), m38 frn_23)) (hR_26 : okR frn_26 cq (0 + 1) 0 0) (Le : lRe ft_ mz = (((mkn_26, mvn_26, mbn_26, mpn_26), m38 frn_26), 0)) (hnb_w_107 : w_107 ≤ mz) (hW6 : W_ ≤ 6) (hLw : wL ft_ mz (7 - W_) (((w_108, w_109, w_110, w_107), m38 w_112), 0) = wL ft_ mz 6 (lRe ft_ mz)) (c_198 : ¬ (w_108 = 1)) (LW : wL ft_ mz 6 (lRe ft_ mz) = (((w_108, w_109, w_110, w_107), m38 w_112), 0)) (hnb_w_207 : w_207 ≤ mz) (hK6 : K_ ≤ 6) (hLs : sL ft_ mz (7 - K_) (((w_208, w_209, w_210, w_207), m38 w_212), 0) = rR ft_ mz) (L4 : m38 w_212 4 = nI K_) (L5 : (nI K_ = 0 ↔ K_ = 0)) (c_228 : ¬ (w_208 = 3)) (hF_229_0 : mpn_229 ≤ mz) (hF_229_2 : sS ft_ mz ((w_208, w_209, w_210, w_207), m38 w_212) = ((mkn_229, mvn_229, mbn_229, mpn_229), m38 frn_229)) (hF_229_3 : (¬ sGG ft_ mz ((w_208, w_209, w_210, w_207), m38 w_212) → mwn_229 = sE ft_ mz ((w_208, w_209, w_210, w_207), m38 w_212))) (f_229_0_0 : ¬ sGG ft_ mz ((w_208, w_209, w_210, w_207), m38 w_212)) : rR ft_ mz = (((mkn_229, mvn_229, mbn_229, mpn_229), m38 frn_229), sE ft_ mz ((w_208, w_209, w_210, w_207), m38 w_212)) := by
  have h8 : sR ft_ mz ((w_208, w_209, w_210, w_207), m38 w_212) = (((mkn_229, mvn_229, mbn_229, mpn_229), m38 frn_229), sE ft_ mz ((w_208, w_209, w_210, w_207), m38 w_212)) := (by simp only [sR]; grind)
  rw [← hLs, sL_go (by omega) (by exact ⟨rfl, by grind⟩)]
  show sL ft_ mz (7 - K_ - 1) (sR ft_ mz ((w_208, w_209, w_210, w_207), m38 w_212)) = _
  rw [h8, sL_stop (fun q => sE_nz _ _ _ q.1)]
theorem lf_X8_readLevel_31 {mz : Nat} {ft_ : Nat → Int32} {w_3 : Nat → Int32} {g_10 : Nat → Int32} {mkn_11 : Int32} {mvn_11 : Int32} {mbn_11 : Int32} {mpn_11 : Nat} {mkn_12 : Int32} {mvn_12 : Int32} {mbn_12 : Int32} {mpn_12 : Nat} {mwn_12 : Int32} {mkn_15 : Int32} {mvn_15 : Int32} {mbn_15 : Int32} {mpn_15 : Nat} {mwn_15 : Int32} {frn_15 : Nat → Int32} {cq : Nat} {v_19 : Int32} {mkn_20 : Int32} {mvn_20 : Int32} {mbn_20 : Int32} {mpn_20 : Nat} {mwn_20 : Int32} {frn_20 : Nat → Int32} {mkn_23 : Int32} {mvn_23 : Int32} {mbn_23 : Int32} {mpn_23 : Nat} {mwn_23 : Int32} {frn_23 : Nat → Int32} {mkn_26 : Int32} {mvn_26 : Int32} {mbn_26 : Int32} {mpn_26 : Nat} {mwn_26 : Int32} {frn_26 : Nat → Int32} {w_107 : Nat} {w_108 : Int32} {w_109 : Int32} {w_110 : Int32} {w_112 : Nat → Int32} {W_ : Nat} {w_207 : Nat} {w_208 : Int32} {w_209 : Int32} {w_210 : Int32} {w_212 : Nat → Int32} {K_ : Nat} {mkn_229 : Int32} {mvn_229 : Int32} {mbn_229 : Int32} {mpn_229 : Nat} {mwn_229 : Int32} {frn_229 : Nat → Int32} (hmz : mz ≤ 120) (hu_10 : g_10 = upd w_3 6 1) (Lr : m38 g_10 = r0) (hF_11_0 : mpn_11 ≤ mz) (hF_11_1 : nT ft_ mz 0 = (mkn_11, mvn_11, mbn_11, mpn_11)) (hF_12_0 : mpn_12 ≤ mz) (hF_12_1 : kU ft_ mz 109 (mkn_11, mvn_11, mbn_11, mpn_11) = (mkn_12, mvn_12, mbn_12, mpn_12)) (hF_12_2 : (¬ kG 109 (mkn_11, mvn_11, mbn_11, mpn_11) → mwn_12 = 1)) (f_12_1_0 : kG 109 (mkn_11, mvn_11, mbn_11, mpn_11)) (La : lRa ft_ mz = (((mkn_12, mvn_12, mbn_12, mpn_12), m38 g_10), 0)) (hF_15_0 : mpn_15 ≤ mz) (hF_15_2 : nU ft_ mz 5 15 44 (mkn_12, mvn_12, mbn_12, mpn_12) = (mkn_15, mvn_15, mbn_15, mpn_15)) (hF_15_3 : m38 frn_15 = nR 5 15 0 (mkn_12, mvn_12, mbn_12, mpn_12) (m38 g_10)) (hF_15_4 : (¬ nGG ft_ mz 5 15 44 (mkn_12, mvn_12, mbn_12, mpn_12) → mwn_15 = nE 5 15 (mkn_12, mvn_12, mbn_12, mpn_12))) (f_15_1_0 : nGG ft_ mz 5 15 44 (mkn_12, mvn_12, mbn_12, mpn_12)) (hR_15 : okR frn_15 cq 0 0 0) (Lb : lRb ft_ mz = (((mkn_15, mvn_15, mbn_15, mpn_15), m38 frn_15), 0)) (L0 : m38 frn_15 0 = nI cq) (e_19 : v_19 = ((nI cq) - 1)) (hF_20_0 : mpn_20 ≤ mz) (hF_20_2 : nU ft_ mz 0 v_19 44 (mkn_15, mvn_15, mbn_15, mpn_15) = (mkn_20, mvn_20, mbn_20, mpn_20)) (hF_20_3 : m38 frn_20 = nR 0 v_19 1 (mkn_15, mvn_15, mbn_15, mpn_15) (m38 frn_15)) (hF_20_4 : (¬ nGG ft_ mz 0 v_19 44 (mkn_15, mvn_15, mbn_15, mpn_15) → mwn_20 = nE 0 v_19 (mkn_15, mvn_15, mbn_15, mpn_15))) (f_20_1_0 : nGG ft_ mz 0 v_19 44 (mkn_15, mvn_15, mbn_15, mpn_15)) (hR_20 : okR frn_20 cq 0 0 0) (Lc : lRc ft_ mz = (((mkn_20, mvn_20, mbn_20, mpn_20), m38 frn_20), 0)) (hF_23_0 : mpn_23 ≤ mz) (hF_23_2 : nU ft_ mz 0 4 59 (mkn_20, mvn_20, mbn_20, mpn_20) = (mkn_23, mvn_23, mbn_23, mpn_23)) (hF_23_3 : m38 frn_23 = nR 0 4 2 (mkn_20, mvn_20, mbn_20, mpn_20) (m38 frn_20)) (hF_23_4 : (¬ nGG ft_ mz 0 4 59 (mkn_20, mvn_20, mbn_20, mpn_20) → mwn_23 = nE 0 4 (mkn_20, mvn_20, mbn_20, mpn_20))) (f_23_1_0 : nGG ft_ mz 0 4 59 (mkn_20, mvn_20, mbn_20, mpn_20)) (hR_23 : okR frn_23 cq 0 0 0) (Ld : lRd ft_ mz = (((mkn_23, mvn_23, mbn_23, mpn_23), m38 frn_23), 0)) (hF_26_0 : mpn_26 ≤ mz) (hF_26_2 : wS ft_ mz ((mkn_23, mvn_23, mbn_23, mpn_23), m38 frn_23) = ((mkn_26, mvn_26, mbn_26, mpn_26), m38 frn_26)) (hF_26_3 : (¬ wGG ft_ mz ((mkn_23, mvn_23, mbn_23, mpn_23), m38 frn_23) → mwn_26 = wE ft_ mz ((mkn_23, mvn_23, mbn_23, mpn_23), m38 frn_23))) (f_26_1_0 : wGG ft_ mz ((mkn_23, mvn_23, mbn_23, mpn_23), m38 frn_23)) (hR_26 : okR frn_26 cq (0 + 1) 0 0) (Le : lRe ft_ mz = (((mkn_26, mvn_26, mbn_26, mpn_26), m38 frn_26), 0)) (hnb_w_107 : w_107 ≤ mz) (hW6 : W_ ≤ 6) (hLw : wL ft_ mz (7 - W_) (((w_108, w_109, w_110, w_107), m38 w_112), 0) = wL ft_ mz 6 (lRe ft_ mz)) (c_198 : ¬ (w_108 = 1)) (LW : wL ft_ mz 6 (lRe ft_ mz) = (((w_108, w_109, w_110, w_107), m38 w_112), 0)) (hnb_w_207 : w_207 ≤ mz) (hK6 : K_ ≤ 6) (hLs : sL ft_ mz (7 - K_) (((w_208, w_209, w_210, w_207), m38 w_212), 0) = rR ft_ mz) (L4 : m38 w_212 4 = nI K_) (L5 : (nI K_ = 0 ↔ K_ = 0)) (c_228 : ¬ (w_208 = 3)) (hF_229_0 : mpn_229 ≤ mz) (hF_229_2 : sS ft_ mz ((w_208, w_209, w_210, w_207), m38 w_212) = ((mkn_229, mvn_229, mbn_229, mpn_229), m38 frn_229)) (hF_229_3 : (¬ sGG ft_ mz ((w_208, w_209, w_210, w_207), m38 w_212) → mwn_229 = sE ft_ mz ((w_208, w_209, w_210, w_207), m38 w_212))) (f_229_0_0 : ¬ sGG ft_ mz ((w_208, w_209, w_210, w_207), m38 w_212)) (Lx : rR ft_ mz = (((mkn_229, mvn_229, mbn_229, mpn_229), m38 frn_229), sE ft_ mz ((w_208, w_209, w_210, w_207), m38 w_212))) (Ln : ¬ sE ft_ mz ((w_208, w_209, w_210, w_207), m38 w_212) = 0) : (rR ft_ mz).1 = ((mkn_229, mvn_229, mbn_229, mpn_229), m38 frn_229) := by
  first
  | (rw [Lx]; exact Ln)
  | (rw [Lx]; done)
  | (intro q_; rw [Lx]; grind)
  | grind
theorem lf_X8_readLevel_32 {mz : Nat} {ft_ : Nat → Int32} {w_3 : Nat → Int32} {g_10 : Nat → Int32} {mkn_11 : Int32} {mvn_11 : Int32} {mbn_11 : Int32} {mpn_11 : Nat} {mkn_12 : Int32} {mvn_12 : Int32} {mbn_12 : Int32} {mpn_12 : Nat} {mwn_12 : Int32} {mkn_15 : Int32} {mvn_15 : Int32} {mbn_15 : Int32} {mpn_15 : Nat} {mwn_15 : Int32} {frn_15 : Nat → Int32} {cq : Nat} {v_19 : Int32} {mkn_20 : Int32} {mvn_20 : Int32} {mbn_20 : Int32} {mpn_20 : Nat} {mwn_20 : Int32} {frn_20 : Nat → Int32} {mkn_23 : Int32} {mvn_23 : Int32} {mbn_23 : Int32} {mpn_23 : Nat} {mwn_23 : Int32} {frn_23 : Nat → Int32} {mkn_26 : Int32} {mvn_26 : Int32} {mbn_26 : Int32} {mpn_26 : Nat} {mwn_26 : Int32} {frn_26 : Nat → Int32} {w_107 : Nat} {w_108 : Int32} {w_109 : Int32} {w_110 : Int32} {w_112 : Nat → Int32} {W_ : Nat} {w_207 : Nat} {w_208 : Int32} {w_209 : Int32} {w_210 : Int32} {w_212 : Nat → Int32} {K_ : Nat} {mkn_229 : Int32} {mvn_229 : Int32} {mbn_229 : Int32} {mpn_229 : Nat} {mwn_229 : Int32} {frn_229 : Nat → Int32} (hmz : mz ≤ 120) (hu_10 : g_10 = upd w_3 6 1) (Lr : m38 g_10 = r0) (hF_11_0 : mpn_11 ≤ mz) (hF_11_1 : nT ft_ mz 0 = (mkn_11, mvn_11, mbn_11, mpn_11)) (hF_12_0 : mpn_12 ≤ mz) (hF_12_1 : kU ft_ mz 109 (mkn_11, mvn_11, mbn_11, mpn_11) = (mkn_12, mvn_12, mbn_12, mpn_12)) (hF_12_2 : (¬ kG 109 (mkn_11, mvn_11, mbn_11, mpn_11) → mwn_12 = 1)) (f_12_1_0 : kG 109 (mkn_11, mvn_11, mbn_11, mpn_11)) (La : lRa ft_ mz = (((mkn_12, mvn_12, mbn_12, mpn_12), m38 g_10), 0)) (hF_15_0 : mpn_15 ≤ mz) (hF_15_2 : nU ft_ mz 5 15 44 (mkn_12, mvn_12, mbn_12, mpn_12) = (mkn_15, mvn_15, mbn_15, mpn_15)) (hF_15_3 : m38 frn_15 = nR 5 15 0 (mkn_12, mvn_12, mbn_12, mpn_12) (m38 g_10)) (hF_15_4 : (¬ nGG ft_ mz 5 15 44 (mkn_12, mvn_12, mbn_12, mpn_12) → mwn_15 = nE 5 15 (mkn_12, mvn_12, mbn_12, mpn_12))) (f_15_1_0 : nGG ft_ mz 5 15 44 (mkn_12, mvn_12, mbn_12, mpn_12)) (hR_15 : okR frn_15 cq 0 0 0) (Lb : lRb ft_ mz = (((mkn_15, mvn_15, mbn_15, mpn_15), m38 frn_15), 0)) (L0 : m38 frn_15 0 = nI cq) (e_19 : v_19 = ((nI cq) - 1)) (hF_20_0 : mpn_20 ≤ mz) (hF_20_2 : nU ft_ mz 0 v_19 44 (mkn_15, mvn_15, mbn_15, mpn_15) = (mkn_20, mvn_20, mbn_20, mpn_20)) (hF_20_3 : m38 frn_20 = nR 0 v_19 1 (mkn_15, mvn_15, mbn_15, mpn_15) (m38 frn_15)) (hF_20_4 : (¬ nGG ft_ mz 0 v_19 44 (mkn_15, mvn_15, mbn_15, mpn_15) → mwn_20 = nE 0 v_19 (mkn_15, mvn_15, mbn_15, mpn_15))) (f_20_1_0 : nGG ft_ mz 0 v_19 44 (mkn_15, mvn_15, mbn_15, mpn_15)) (hR_20 : okR frn_20 cq 0 0 0) (Lc : lRc ft_ mz = (((mkn_20, mvn_20, mbn_20, mpn_20), m38 frn_20), 0)) (hF_23_0 : mpn_23 ≤ mz) (hF_23_2 : nU ft_ mz 0 4 59 (mkn_20, mvn_20, mbn_20, mpn_20) = (mkn_23, mvn_23, mbn_23, mpn_23)) (hF_23_3 : m38 frn_23 = nR 0 4 2 (mkn_20, mvn_20, mbn_20, mpn_20) (m38 frn_20)) (hF_23_4 : (¬ nGG ft_ mz 0 4 59 (mkn_20, mvn_20, mbn_20, mpn_20) → mwn_23 = nE 0 4 (mkn_20, mvn_20, mbn_20, mpn_20))) (f_23_1_0 : nGG ft_ mz 0 4 59 (mkn_20, mvn_20, mbn_20, mpn_20)) (hR_23 : okR frn_23 cq 0 0 0) (Ld : lRd ft_ mz = (((mkn_23, mvn_23, mbn_23, mpn_23), m38 frn_23), 0)) (hF_26_0 : mpn_26 ≤ mz) (hF_26_2 : wS ft_ mz ((mkn_23, mvn_23, mbn_23, mpn_23), m38 frn_23) = ((mkn_26, mvn_26, mbn_26, mpn_26), m38 frn_26)) (hF_26_3 : (¬ wGG ft_ mz ((mkn_23, mvn_23, mbn_23, mpn_23), m38 frn_23) → mwn_26 = wE ft_ mz ((mkn_23, mvn_23, mbn_23, mpn_23), m38 frn_23))) (f_26_1_0 : wGG ft_ mz ((mkn_23, mvn_23, mbn_23, mpn_23), m38 frn_23)) (hR_26 : okR frn_26 cq (0 + 1) 0 0) (Le : lRe ft_ mz = (((mkn_26, mvn_26, mbn_26, mpn_26), m38 frn_26), 0)) (hnb_w_107 : w_107 ≤ mz) (hW6 : W_ ≤ 6) (hLw : wL ft_ mz (7 - W_) (((w_108, w_109, w_110, w_107), m38 w_112), 0) = wL ft_ mz 6 (lRe ft_ mz)) (c_198 : ¬ (w_108 = 1)) (LW : wL ft_ mz 6 (lRe ft_ mz) = (((w_108, w_109, w_110, w_107), m38 w_112), 0)) (hnb_w_207 : w_207 ≤ mz) (hK6 : K_ ≤ 6) (hLs : sL ft_ mz (7 - K_) (((w_208, w_209, w_210, w_207), m38 w_212), 0) = rR ft_ mz) (L4 : m38 w_212 4 = nI K_) (L5 : (nI K_ = 0 ↔ K_ = 0)) (c_228 : ¬ (w_208 = 3)) (hF_229_0 : mpn_229 ≤ mz) (hF_229_2 : sS ft_ mz ((w_208, w_209, w_210, w_207), m38 w_212) = ((mkn_229, mvn_229, mbn_229, mpn_229), m38 frn_229)) (hF_229_3 : (¬ sGG ft_ mz ((w_208, w_209, w_210, w_207), m38 w_212) → mwn_229 = sE ft_ mz ((w_208, w_209, w_210, w_207), m38 w_212))) (f_229_0_0 : ¬ sGG ft_ mz ((w_208, w_209, w_210, w_207), m38 w_212)) (Lx : rR ft_ mz = (((mkn_229, mvn_229, mbn_229, mpn_229), m38 frn_229), sE ft_ mz ((w_208, w_209, w_210, w_207), m38 w_212))) (Ln : ¬ sE ft_ mz ((w_208, w_209, w_210, w_207), m38 w_212) = 0) : (¬ (rR ft_ mz).2 = 0 → mwn_229 = (rR ft_ mz).2) := by
  first
  | (rw [Lx]; exact Ln)
  | (rw [Lx]; done)
  | (intro q_; rw [Lx]; grind)
  | grind
theorem lf_X8_readLevel_33 {mz : Nat} {ft_ : Nat → Int32} {w_3 : Nat → Int32} {g_10 : Nat → Int32} {mkn_11 : Int32} {mvn_11 : Int32} {mbn_11 : Int32} {mpn_11 : Nat} {mkn_12 : Int32} {mvn_12 : Int32} {mbn_12 : Int32} {mpn_12 : Nat} {mwn_12 : Int32} {mkn_15 : Int32} {mvn_15 : Int32} {mbn_15 : Int32} {mpn_15 : Nat} {mwn_15 : Int32} {frn_15 : Nat → Int32} {cq : Nat} {v_19 : Int32} {mkn_20 : Int32} {mvn_20 : Int32} {mbn_20 : Int32} {mpn_20 : Nat} {mwn_20 : Int32} {frn_20 : Nat → Int32} {mkn_23 : Int32} {mvn_23 : Int32} {mbn_23 : Int32} {mpn_23 : Nat} {mwn_23 : Int32} {frn_23 : Nat → Int32} {mkn_26 : Int32} {mvn_26 : Int32} {mbn_26 : Int32} {mpn_26 : Nat} {mwn_26 : Int32} {frn_26 : Nat → Int32} {w_107 : Nat} {w_108 : Int32} {w_109 : Int32} {w_110 : Int32} {w_112 : Nat → Int32} {W_ : Nat} {w_207 : Nat} {w_208 : Int32} {w_209 : Int32} {w_210 : Int32} {w_212 : Nat → Int32} {K_ : Nat} {mkn_229 : Int32} {mvn_229 : Int32} {mbn_229 : Int32} {mpn_229 : Nat} {mwn_229 : Int32} {frn_229 : Nat → Int32} (hmz : mz ≤ 120) (hu_10 : g_10 = upd w_3 6 1) (Lr : m38 g_10 = r0) (hF_11_0 : mpn_11 ≤ mz) (hF_11_1 : nT ft_ mz 0 = (mkn_11, mvn_11, mbn_11, mpn_11)) (hF_12_0 : mpn_12 ≤ mz) (hF_12_1 : kU ft_ mz 109 (mkn_11, mvn_11, mbn_11, mpn_11) = (mkn_12, mvn_12, mbn_12, mpn_12)) (hF_12_2 : (¬ kG 109 (mkn_11, mvn_11, mbn_11, mpn_11) → mwn_12 = 1)) (f_12_1_0 : kG 109 (mkn_11, mvn_11, mbn_11, mpn_11)) (La : lRa ft_ mz = (((mkn_12, mvn_12, mbn_12, mpn_12), m38 g_10), 0)) (hF_15_0 : mpn_15 ≤ mz) (hF_15_2 : nU ft_ mz 5 15 44 (mkn_12, mvn_12, mbn_12, mpn_12) = (mkn_15, mvn_15, mbn_15, mpn_15)) (hF_15_3 : m38 frn_15 = nR 5 15 0 (mkn_12, mvn_12, mbn_12, mpn_12) (m38 g_10)) (hF_15_4 : (¬ nGG ft_ mz 5 15 44 (mkn_12, mvn_12, mbn_12, mpn_12) → mwn_15 = nE 5 15 (mkn_12, mvn_12, mbn_12, mpn_12))) (f_15_1_0 : nGG ft_ mz 5 15 44 (mkn_12, mvn_12, mbn_12, mpn_12)) (hR_15 : okR frn_15 cq 0 0 0) (Lb : lRb ft_ mz = (((mkn_15, mvn_15, mbn_15, mpn_15), m38 frn_15), 0)) (L0 : m38 frn_15 0 = nI cq) (e_19 : v_19 = ((nI cq) - 1)) (hF_20_0 : mpn_20 ≤ mz) (hF_20_2 : nU ft_ mz 0 v_19 44 (mkn_15, mvn_15, mbn_15, mpn_15) = (mkn_20, mvn_20, mbn_20, mpn_20)) (hF_20_3 : m38 frn_20 = nR 0 v_19 1 (mkn_15, mvn_15, mbn_15, mpn_15) (m38 frn_15)) (hF_20_4 : (¬ nGG ft_ mz 0 v_19 44 (mkn_15, mvn_15, mbn_15, mpn_15) → mwn_20 = nE 0 v_19 (mkn_15, mvn_15, mbn_15, mpn_15))) (f_20_1_0 : nGG ft_ mz 0 v_19 44 (mkn_15, mvn_15, mbn_15, mpn_15)) (hR_20 : okR frn_20 cq 0 0 0) (Lc : lRc ft_ mz = (((mkn_20, mvn_20, mbn_20, mpn_20), m38 frn_20), 0)) (hF_23_0 : mpn_23 ≤ mz) (hF_23_2 : nU ft_ mz 0 4 59 (mkn_20, mvn_20, mbn_20, mpn_20) = (mkn_23, mvn_23, mbn_23, mpn_23)) (hF_23_3 : m38 frn_23 = nR 0 4 2 (mkn_20, mvn_20, mbn_20, mpn_20) (m38 frn_20)) (hF_23_4 : (¬ nGG ft_ mz 0 4 59 (mkn_20, mvn_20, mbn_20, mpn_20) → mwn_23 = nE 0 4 (mkn_20, mvn_20, mbn_20, mpn_20))) (f_23_1_0 : nGG ft_ mz 0 4 59 (mkn_20, mvn_20, mbn_20, mpn_20)) (hR_23 : okR frn_23 cq 0 0 0) (Ld : lRd ft_ mz = (((mkn_23, mvn_23, mbn_23, mpn_23), m38 frn_23), 0)) (hF_26_0 : mpn_26 ≤ mz) (hF_26_2 : wS ft_ mz ((mkn_23, mvn_23, mbn_23, mpn_23), m38 frn_23) = ((mkn_26, mvn_26, mbn_26, mpn_26), m38 frn_26)) (hF_26_3 : (¬ wGG ft_ mz ((mkn_23, mvn_23, mbn_23, mpn_23), m38 frn_23) → mwn_26 = wE ft_ mz ((mkn_23, mvn_23, mbn_23, mpn_23), m38 frn_23))) (f_26_1_0 : wGG ft_ mz ((mkn_23, mvn_23, mbn_23, mpn_23), m38 frn_23)) (hR_26 : okR frn_26 cq (0 + 1) 0 0) (Le : lRe ft_ mz = (((mkn_26, mvn_26, mbn_26, mpn_26), m38 frn_26), 0)) (hnb_w_107 : w_107 ≤ mz) (hW6 : W_ ≤ 6) (hLw : wL ft_ mz (7 - W_) (((w_108, w_109, w_110, w_107), m38 w_112), 0) = wL ft_ mz 6 (lRe ft_ mz)) (c_198 : ¬ (w_108 = 1)) (LW : wL ft_ mz 6 (lRe ft_ mz) = (((w_108, w_109, w_110, w_107), m38 w_112), 0)) (hnb_w_207 : w_207 ≤ mz) (hK6 : K_ ≤ 6) (hLs : sL ft_ mz (7 - K_) (((w_208, w_209, w_210, w_207), m38 w_212), 0) = rR ft_ mz) (L4 : m38 w_212 4 = nI K_) (L5 : (nI K_ = 0 ↔ K_ = 0)) (c_228 : ¬ (w_208 = 3)) (hF_229_0 : mpn_229 ≤ mz) (hF_229_2 : sS ft_ mz ((w_208, w_209, w_210, w_207), m38 w_212) = ((mkn_229, mvn_229, mbn_229, mpn_229), m38 frn_229)) (hF_229_3 : (¬ sGG ft_ mz ((w_208, w_209, w_210, w_207), m38 w_212) → mwn_229 = sE ft_ mz ((w_208, w_209, w_210, w_207), m38 w_212))) (f_229_0_0 : ¬ sGG ft_ mz ((w_208, w_209, w_210, w_207), m38 w_212)) (Lx : rR ft_ mz = (((mkn_229, mvn_229, mbn_229, mpn_229), m38 frn_229), sE ft_ mz ((w_208, w_209, w_210, w_207), m38 w_212))) (Ln : ¬ sE ft_ mz ((w_208, w_209, w_210, w_207), m38 w_212) = 0) : ¬ (rR ft_ mz).2 = 0 := by
  first
  | (rw [Lx]; exact Ln)
  | (rw [Lx]; done)
  | (intro q_; rw [Lx]; grind)
  | grind
theorem lf_X8_readLevel_34 {mz : Nat} {ft_ : Nat → Int32} {w_3 : Nat → Int32} {g_10 : Nat → Int32} {mkn_11 : Int32} {mvn_11 : Int32} {mbn_11 : Int32} {mpn_11 : Nat} {mkn_12 : Int32} {mvn_12 : Int32} {mbn_12 : Int32} {mpn_12 : Nat} {mwn_12 : Int32} {mkn_15 : Int32} {mvn_15 : Int32} {mbn_15 : Int32} {mpn_15 : Nat} {mwn_15 : Int32} {frn_15 : Nat → Int32} {cq : Nat} {v_19 : Int32} {mkn_20 : Int32} {mvn_20 : Int32} {mbn_20 : Int32} {mpn_20 : Nat} {mwn_20 : Int32} {frn_20 : Nat → Int32} {mkn_23 : Int32} {mvn_23 : Int32} {mbn_23 : Int32} {mpn_23 : Nat} {mwn_23 : Int32} {frn_23 : Nat → Int32} {mkn_26 : Int32} {mvn_26 : Int32} {mbn_26 : Int32} {mpn_26 : Nat} {mwn_26 : Int32} {frn_26 : Nat → Int32} {w_107 : Nat} {w_108 : Int32} {w_109 : Int32} {w_110 : Int32} {w_112 : Nat → Int32} {W_ : Nat} {w_207 : Nat} {w_208 : Int32} {w_209 : Int32} {w_210 : Int32} {w_212 : Nat → Int32} {K_ : Nat} {mkn_229 : Int32} {mvn_229 : Int32} {mbn_229 : Int32} {mpn_229 : Nat} {mwn_229 : Int32} {frn_229 : Nat → Int32} (hmz : mz ≤ 120) (hu_10 : g_10 = upd w_3 6 1) (Lr : m38 g_10 = r0) (hF_11_0 : mpn_11 ≤ mz) (hF_11_1 : nT ft_ mz 0 = (mkn_11, mvn_11, mbn_11, mpn_11)) (hF_12_0 : mpn_12 ≤ mz) (hF_12_1 : kU ft_ mz 109 (mkn_11, mvn_11, mbn_11, mpn_11) = (mkn_12, mvn_12, mbn_12, mpn_12)) (hF_12_2 : (¬ kG 109 (mkn_11, mvn_11, mbn_11, mpn_11) → mwn_12 = 1)) (f_12_1_0 : kG 109 (mkn_11, mvn_11, mbn_11, mpn_11)) (La : lRa ft_ mz = (((mkn_12, mvn_12, mbn_12, mpn_12), m38 g_10), 0)) (hF_15_0 : mpn_15 ≤ mz) (hF_15_2 : nU ft_ mz 5 15 44 (mkn_12, mvn_12, mbn_12, mpn_12) = (mkn_15, mvn_15, mbn_15, mpn_15)) (hF_15_3 : m38 frn_15 = nR 5 15 0 (mkn_12, mvn_12, mbn_12, mpn_12) (m38 g_10)) (hF_15_4 : (¬ nGG ft_ mz 5 15 44 (mkn_12, mvn_12, mbn_12, mpn_12) → mwn_15 = nE 5 15 (mkn_12, mvn_12, mbn_12, mpn_12))) (f_15_1_0 : nGG ft_ mz 5 15 44 (mkn_12, mvn_12, mbn_12, mpn_12)) (hR_15 : okR frn_15 cq 0 0 0) (Lb : lRb ft_ mz = (((mkn_15, mvn_15, mbn_15, mpn_15), m38 frn_15), 0)) (L0 : m38 frn_15 0 = nI cq) (e_19 : v_19 = ((nI cq) - 1)) (hF_20_0 : mpn_20 ≤ mz) (hF_20_2 : nU ft_ mz 0 v_19 44 (mkn_15, mvn_15, mbn_15, mpn_15) = (mkn_20, mvn_20, mbn_20, mpn_20)) (hF_20_3 : m38 frn_20 = nR 0 v_19 1 (mkn_15, mvn_15, mbn_15, mpn_15) (m38 frn_15)) (hF_20_4 : (¬ nGG ft_ mz 0 v_19 44 (mkn_15, mvn_15, mbn_15, mpn_15) → mwn_20 = nE 0 v_19 (mkn_15, mvn_15, mbn_15, mpn_15))) (f_20_1_0 : nGG ft_ mz 0 v_19 44 (mkn_15, mvn_15, mbn_15, mpn_15)) (hR_20 : okR frn_20 cq 0 0 0) (Lc : lRc ft_ mz = (((mkn_20, mvn_20, mbn_20, mpn_20), m38 frn_20), 0)) (hF_23_0 : mpn_23 ≤ mz) (hF_23_2 : nU ft_ mz 0 4 59 (mkn_20, mvn_20, mbn_20, mpn_20) = (mkn_23, mvn_23, mbn_23, mpn_23)) (hF_23_3 : m38 frn_23 = nR 0 4 2 (mkn_20, mvn_20, mbn_20, mpn_20) (m38 frn_20)) (hF_23_4 : (¬ nGG ft_ mz 0 4 59 (mkn_20, mvn_20, mbn_20, mpn_20) → mwn_23 = nE 0 4 (mkn_20, mvn_20, mbn_20, mpn_20))) (f_23_1_0 : nGG ft_ mz 0 4 59 (mkn_20, mvn_20, mbn_20, mpn_20)) (hR_23 : okR frn_23 cq 0 0 0) (Ld : lRd ft_ mz = (((mkn_23, mvn_23, mbn_23, mpn_23), m38 frn_23), 0)) (hF_26_0 : mpn_26 ≤ mz) (hF_26_2 : wS ft_ mz ((mkn_23, mvn_23, mbn_23, mpn_23), m38 frn_23) = ((mkn_26, mvn_26, mbn_26, mpn_26), m38 frn_26)) (hF_26_3 : (¬ wGG ft_ mz ((mkn_23, mvn_23, mbn_23, mpn_23), m38 frn_23) → mwn_26 = wE ft_ mz ((mkn_23, mvn_23, mbn_23, mpn_23), m38 frn_23))) (f_26_1_0 : wGG ft_ mz ((mkn_23, mvn_23, mbn_23, mpn_23), m38 frn_23)) (hR_26 : okR frn_26 cq (0 + 1) 0 0) (Le : lRe ft_ mz = (((mkn_26, mvn_26, mbn_26, mpn_26), m38 frn_26), 0)) (hnb_w_107 : w_107 ≤ mz) (hW6 : W_ ≤ 6) (hLw : wL ft_ mz (7 - W_) (((w_108, w_109, w_110, w_107), m38 w_112), 0) = wL ft_ mz 6 (lRe ft_ mz)) (c_198 : ¬ (w_108 = 1)) (LW : wL ft_ mz 6 (lRe ft_ mz) = (((w_108, w_109, w_110, w_107), m38 w_112), 0)) (hnb_w_207 : w_207 ≤ mz) (hK6 : K_ ≤ 6) (hLs : sL ft_ mz (7 - K_) (((w_208, w_209, w_210, w_207), m38 w_212), 0) = rR ft_ mz) (L4 : m38 w_212 4 = nI K_) (L5 : (nI K_ = 0 ↔ K_ = 0)) (c_228 : ¬ (w_208 = 3)) (hF_229_0 : mpn_229 ≤ mz) (hF_229_2 : sS ft_ mz ((w_208, w_209, w_210, w_207), m38 w_212) = ((mkn_229, mvn_229, mbn_229, mpn_229), m38 frn_229)) (hF_229_3 : (¬ sGG ft_ mz ((w_208, w_209, w_210, w_207), m38 w_212) → mwn_229 = sE ft_ mz ((w_208, w_209, w_210, w_207), m38 w_212))) (f_229_1_0 : sGG ft_ mz ((w_208, w_209, w_210, w_207), m38 w_212)) (hR_229 : okR frn_229 cq W_ (K_ + 1) (K_ + 1)) : sL ft_ mz (7 - (K_ + 1)) (((mkn_229, mvn_229, mbn_229, mpn_229), m38 frn_229), 0) = rR ft_ mz := by
  rw [sL_go (by omega) (by exact ⟨rfl, by grind⟩)] at hLs
  rw [show 7 - (K_ + 1) = 7 - K_ - 1 by omega, ← hLs]
  refine congrArg _ ?_
  simp only [sR]
  grind
theorem lf_X8_readLevel_35 {mz : Nat} {ft_ : Nat → Int32} {w_3 : Nat → Int32} {g_10 : Nat → Int32} {mkn_11 : Int32} {mvn_11 : Int32} {mbn_11 : Int32} {mpn_11 : Nat} {mkn_12 : Int32} {mvn_12 : Int32} {mbn_12 : Int32} {mpn_12 : Nat} {mwn_12 : Int32} {mkn_15 : Int32} {mvn_15 : Int32} {mbn_15 : Int32} {mpn_15 : Nat} {mwn_15 : Int32} {frn_15 : Nat → Int32} {cq : Nat} {v_19 : Int32} {mkn_20 : Int32} {mvn_20 : Int32} {mbn_20 : Int32} {mpn_20 : Nat} {mwn_20 : Int32} {frn_20 : Nat → Int32} {mkn_23 : Int32} {mvn_23 : Int32} {mbn_23 : Int32} {mpn_23 : Nat} {mwn_23 : Int32} {frn_23 : Nat → Int32} {mkn_26 : Int32} {mvn_26 : Int32} {mbn_26 : Int32} {mpn_26 : Nat} {mwn_26 : Int32} {frn_26 : Nat → Int32} {w_107 : Nat} {w_108 : Int32} {w_109 : Int32} {w_110 : Int32} {w_112 : Nat → Int32} {W_ : Nat} {w_207 : Nat} {w_208 : Int32} {w_209 : Int32} {w_210 : Int32} {w_212 : Nat → Int32} {K_ : Nat} (hmz : mz ≤ 120) (hu_10 : g_10 = upd w_3 6 1) (Lr : m38 g_10 = r0) (hF_11_0 : mpn_11 ≤ mz) (hF_11_1 : nT ft_ mz 0 = (mkn_11, mvn_11, mbn_11, mpn_11)) (hF_12_0 : mpn_12 ≤ mz) (hF_12_1 : kU ft_ mz 109 (mkn_11, mvn_11, mbn_11, mpn_11) = (mkn_12, mvn_12, mbn_12, mpn_12)) (hF_12_2 : (¬ kG 109 (mkn_11, mvn_11, mbn_11, mpn_11) → mwn_12 = 1)) (f_12_1_0 : kG 109 (mkn_11, mvn_11, mbn_11, mpn_11)) (La : lRa ft_ mz = (((mkn_12, mvn_12, mbn_12, mpn_12), m38 g_10), 0)) (hF_15_0 : mpn_15 ≤ mz) (hF_15_2 : nU ft_ mz 5 15 44 (mkn_12, mvn_12, mbn_12, mpn_12) = (mkn_15, mvn_15, mbn_15, mpn_15)) (hF_15_3 : m38 frn_15 = nR 5 15 0 (mkn_12, mvn_12, mbn_12, mpn_12) (m38 g_10)) (hF_15_4 : (¬ nGG ft_ mz 5 15 44 (mkn_12, mvn_12, mbn_12, mpn_12) → mwn_15 = nE 5 15 (mkn_12, mvn_12, mbn_12, mpn_12))) (f_15_1_0 : nGG ft_ mz 5 15 44 (mkn_12, mvn_12, mbn_12, mpn_12)) (hR_15 : okR frn_15 cq 0 0 0) (Lb : lRb ft_ mz = (((mkn_15, mvn_15, mbn_15, mpn_15), m38 frn_15), 0)) (L0 : m38 frn_15 0 = nI cq) (e_19 : v_19 = ((nI cq) - 1)) (hF_20_0 : mpn_20 ≤ mz) (hF_20_2 : nU ft_ mz 0 v_19 44 (mkn_15, mvn_15, mbn_15, mpn_15) = (mkn_20, mvn_20, mbn_20, mpn_20)) (hF_20_3 : m38 frn_20 = nR 0 v_19 1 (mkn_15, mvn_15, mbn_15, mpn_15) (m38 frn_15)) (hF_20_4 : (¬ nGG ft_ mz 0 v_19 44 (mkn_15, mvn_15, mbn_15, mpn_15) → mwn_20 = nE 0 v_19 (mkn_15, mvn_15, mbn_15, mpn_15))) (f_20_1_0 : nGG ft_ mz 0 v_19 44 (mkn_15, mvn_15, mbn_15, mpn_15)) (hR_20 : okR frn_20 cq 0 0 0) (Lc : lRc ft_ mz = (((mkn_20, mvn_20, mbn_20, mpn_20), m38 frn_20), 0)) (hF_23_0 : mpn_23 ≤ mz) (hF_23_2 : nU ft_ mz 0 4 59 (mkn_20, mvn_20, mbn_20, mpn_20) = (mkn_23, mvn_23, mbn_23, mpn_23)) (hF_23_3 : m38 frn_23 = nR 0 4 2 (mkn_20, mvn_20, mbn_20, mpn_20) (m38 frn_20)) (hF_23_4 : (¬ nGG ft_ mz 0 4 59 (mkn_20, mvn_20, mbn_20, mpn_20) → mwn_23 = nE 0 4 (mkn_20, mvn_20, mbn_20, mpn_20))) (f_23_1_0 : nGG ft_ mz 0 4 59 (mkn_20, mvn_20, mbn_20, mpn_20)) (hR_23 : okR frn_23 cq 0 0 0) (Ld : lRd ft_ mz = (((mkn_23, mvn_23, mbn_23, mpn_23), m38 frn_23), 0)) (hF_26_0 : mpn_26 ≤ mz) (hF_26_2 : wS ft_ mz ((mkn_23, mvn_23, mbn_23, mpn_23), m38 frn_23) = ((mkn_26, mvn_26, mbn_26, mpn_26), m38 frn_26)) (hF_26_3 : (¬ wGG ft_ mz ((mkn_23, mvn_23, mbn_23, mpn_23), m38 frn_23) → mwn_26 = wE ft_ mz ((mkn_23, mvn_23, mbn_23, mpn_23), m38 frn_23))) (f_26_1_0 : wGG ft_ mz ((mkn_23, mvn_23, mbn_23, mpn_23), m38 frn_23)) (hR_26 : okR frn_26 cq (0 + 1) 0 0) (Le : lRe ft_ mz = (((mkn_26, mvn_26, mbn_26, mpn_26), m38 frn_26), 0)) (hnb_w_107 : w_107 ≤ mz) (hW6 : W_ ≤ 6) (hLw : wL ft_ mz (7 - W_) (((w_108, w_109, w_110, w_107), m38 w_112), 0) = wL ft_ mz 6 (lRe ft_ mz)) (c_198 : ¬ (w_108 = 1)) (LW : wL ft_ mz 6 (lRe ft_ mz) = (((w_108, w_109, w_110, w_107), m38 w_112), 0)) (hnb_w_207 : w_207 ≤ mz) (hK6 : K_ ≤ 6) (hLs : sL ft_ mz (7 - K_) (((w_208, w_209, w_210, w_207), m38 w_212), 0) = rR ft_ mz) (L4 : m38 w_212 4 = nI K_) (L5 : (nI K_ = 0 ↔ K_ = 0)) (c_228 : w_208 = 3) (c_232 : ¬ (K_ = 0)) : rR ft_ mz = (((w_208, w_209, w_210, w_207), m38 w_212), 0) := by
  rw [← hLs]
  exact sL_stop (fun q => q.2 (by grind))
theorem lf_X8_readLevel_36 {mz : Nat} {ft_ : Nat → Int32} {w_3 : Nat → Int32} {g_10 : Nat → Int32} {mkn_11 : Int32} {mvn_11 : Int32} {mbn_11 : Int32} {mpn_11 : Nat} {mkn_12 : Int32} {mvn_12 : Int32} {mbn_12 : Int32} {mpn_12 : Nat} {mwn_12 : Int32} {mkn_15 : Int32} {mvn_15 : Int32} {mbn_15 : Int32} {mpn_15 : Nat} {mwn_15 : Int32} {frn_15 : Nat → Int32} {cq : Nat} {v_19 : Int32} {mkn_20 : Int32} {mvn_20 : Int32} {mbn_20 : Int32} {mpn_20 : Nat} {mwn_20 : Int32} {frn_20 : Nat → Int32} {mkn_23 : Int32} {mvn_23 : Int32} {mbn_23 : Int32} {mpn_23 : Nat} {mwn_23 : Int32} {frn_23 : Nat → Int32} {mkn_26 : Int32} {mvn_26 : Int32} {mbn_26 : Int32} {mpn_26 : Nat} {mwn_26 : Int32} {frn_26 : Nat → Int32} {w_107 : Nat} {w_108 : Int32} {w_109 : Int32} {w_110 : Int32} {w_112 : Nat → Int32} {W_ : Nat} {w_207 : Nat} {w_208 : Int32} {w_209 : Int32} {w_210 : Int32} {w_212 : Nat → Int32} {K_ : Nat} (hmz : mz ≤ 120) (hu_10 : g_10 = upd w_3 6 1) (Lr : m38 g_10 = r0) (hF_11_0 : mpn_11 ≤ mz) (hF_11_1 : nT ft_ mz 0 = (mkn_11, mvn_11, mbn_11, mpn_11)) (hF_12_0 : mpn_12 ≤ mz) (hF_12_1 : kU ft_ mz 109 (mkn_11, mvn_11, mbn_11, mpn_11) = (mkn_12, mvn_12, mbn_12, mpn_12)) (hF_12_2 : (¬ kG 109 (mkn_11, mvn_11, mbn_11, mpn_11) → mwn_12 = 1)) (f_12_1_0 : kG 109 (mkn_11, mvn_11, mbn_11, mpn_11)) (La : lRa ft_ mz = (((mkn_12, mvn_12, mbn_12, mpn_12), m38 g_10), 0)) (hF_15_0 : mpn_15 ≤ mz) (hF_15_2 : nU ft_ mz 5 15 44 (mkn_12, mvn_12, mbn_12, mpn_12) = (mkn_15, mvn_15, mbn_15, mpn_15)) (hF_15_3 : m38 frn_15 = nR 5 15 0 (mkn_12, mvn_12, mbn_12, mpn_12) (m38 g_10)) (hF_15_4 : (¬ nGG ft_ mz 5 15 44 (mkn_12, mvn_12, mbn_12, mpn_12) → mwn_15 = nE 5 15 (mkn_12, mvn_12, mbn_12, mpn_12))) (f_15_1_0 : nGG ft_ mz 5 15 44 (mkn_12, mvn_12, mbn_12, mpn_12)) (hR_15 : okR frn_15 cq 0 0 0) (Lb : lRb ft_ mz = (((mkn_15, mvn_15, mbn_15, mpn_15), m38 frn_15), 0)) (L0 : m38 frn_15 0 = nI cq) (e_19 : v_19 = ((nI cq) - 1)) (hF_20_0 : mpn_20 ≤ mz) (hF_20_2 : nU ft_ mz 0 v_19 44 (mkn_15, mvn_15, mbn_15, mpn_15) = (mkn_20, mvn_20, mbn_20, mpn_20)) (hF_20_3 : m38 frn_20 = nR 0 v_19 1 (mkn_15, mvn_15, mbn_15, mpn_15) (m38 frn_15)) (hF_20_4 : (¬ nGG ft_ mz 0 v_19 44 (mkn_15, mvn_15, mbn_15, mpn_15) → mwn_20 = nE 0 v_19 (mkn_15, mvn_15, mbn_15, mpn_15))) (f_20_1_0 : nGG ft_ mz 0 v_19 44 (mkn_15, mvn_15, mbn_15, mpn_15)) (hR_20 : okR frn_20 cq 0 0 0) (Lc : lRc ft_ mz = (((mkn_20, mvn_20, mbn_20, mpn_20), m38 frn_20), 0)) (hF_23_0 : mpn_23 ≤ mz) (hF_23_2 : nU ft_ mz 0 4 59 (mkn_20, mvn_20, mbn_20, mpn_20) = (mkn_23, mvn_23, mbn_23, mpn_23)) (hF_23_3 : m38 frn_23 = nR 0 4 2 (mkn_20, mvn_20, mbn_20, mpn_20) (m38 frn_20)) (hF_23_4 : (¬ nGG ft_ mz 0 4 59 (mkn_20, mvn_20, mbn_20, mpn_20) → mwn_23 = nE 0 4 (mkn_20, mvn_20, mbn_20, mpn_20))) (f_23_1_0 : nGG ft_ mz 0 4 59 (mkn_20, mvn_20, mbn_20, mpn_20)) (hR_23 : okR frn_23 cq 0 0 0) (Ld : lRd ft_ mz = (((mkn_23, mvn_23, mbn_23, mpn_23), m38 frn_23), 0)) (hF_26_0 : mpn_26 ≤ mz) (hF_26_2 : wS ft_ mz ((mkn_23, mvn_23, mbn_23, mpn_23), m38 frn_23) = ((mkn_26, mvn_26, mbn_26, mpn_26), m38 frn_26)) (hF_26_3 : (¬ wGG ft_ mz ((mkn_23, mvn_23, mbn_23, mpn_23), m38 frn_23) → mwn_26 = wE ft_ mz ((mkn_23, mvn_23, mbn_23, mpn_23), m38 frn_23))) (f_26_1_0 : wGG ft_ mz ((mkn_23, mvn_23, mbn_23, mpn_23), m38 frn_23)) (hR_26 : okR frn_26 cq (0 + 1) 0 0) (Le : lRe ft_ mz = (((mkn_26, mvn_26, mbn_26, mpn_26), m38 frn_26), 0)) (hnb_w_107 : w_107 ≤ mz) (hW6 : W_ ≤ 6) (hLw : wL ft_ mz (7 - W_) (((w_108, w_109, w_110, w_107), m38 w_112), 0) = wL ft_ mz 6 (lRe ft_ mz)) (c_198 : ¬ (w_108 = 1)) (LW : wL ft_ mz 6 (lRe ft_ mz) = (((w_108, w_109, w_110, w_107), m38 w_112), 0)) (hnb_w_207 : w_207 ≤ mz) (hK6 : K_ ≤ 6) (hLs : sL ft_ mz (7 - K_) (((w_208, w_209, w_210, w_207), m38 w_212), 0) = rR ft_ mz) (L4 : m38 w_212 4 = nI K_) (L5 : (nI K_ = 0 ↔ K_ = 0)) (c_228 : w_208 = 3) (c_232 : ¬ (K_ = 0)) (Lx : rR ft_ mz = (((w_208, w_209, w_210, w_207), m38 w_212), 0)) : (rR ft_ mz).1 = ((w_208, w_209, w_210, w_207), m38 w_212) := by
  first
  | (rw [Lx]; exact Ln)
  | (rw [Lx]; done)
  | (intro q_; rw [Lx]; grind)
  | grind
theorem lf_X8_readLevel_37 {mz : Nat} {ft_ : Nat → Int32} {w_3 : Nat → Int32} {g_10 : Nat → Int32} {mkn_11 : Int32} {mvn_11 : Int32} {mbn_11 : Int32} {mpn_11 : Nat} {mkn_12 : Int32} {mvn_12 : Int32} {mbn_12 : Int32} {mpn_12 : Nat} {mwn_12 : Int32} {mkn_15 : Int32} {mvn_15 : Int32} {mbn_15 : Int32} {mpn_15 : Nat} {mwn_15 : Int32} {frn_15 : Nat → Int32} {cq : Nat} {v_19 : Int32} {mkn_20 : Int32} {mvn_20 : Int32} {mbn_20 : Int32} {mpn_20 : Nat} {mwn_20 : Int32} {frn_20 : Nat → Int32} {mkn_23 : Int32} {mvn_23 : Int32} {mbn_23 : Int32} {mpn_23 : Nat} {mwn_23 : Int32} {frn_23 : Nat → Int32} {mkn_26 : Int32} {mvn_26 : Int32} {mbn_26 : Int32} {mpn_26 : Nat} {mwn_26 : Int32} {frn_26 : Nat → Int32} {w_107 : Nat} {w_108 : Int32} {w_109 : Int32} {w_110 : Int32} {w_112 : Nat → Int32} {W_ : Nat} {w_207 : Nat} {w_208 : Int32} {w_209 : Int32} {w_210 : Int32} {w_211 : Int32} {w_212 : Nat → Int32} {K_ : Nat} (hmz : mz ≤ 120) (hu_10 : g_10 = upd w_3 6 1) (Lr : m38 g_10 = r0) (hF_11_0 : mpn_11 ≤ mz) (hF_11_1 : nT ft_ mz 0 = (mkn_11, mvn_11, mbn_11, mpn_11)) (hF_12_0 : mpn_12 ≤ mz) (hF_12_1 : kU ft_ mz 109 (mkn_11, mvn_11, mbn_11, mpn_11) = (mkn_12, mvn_12, mbn_12, mpn_12)) (hF_12_2 : (¬ kG 109 (mkn_11, mvn_11, mbn_11, mpn_11) → mwn_12 = 1)) (f_12_1_0 : kG 109 (mkn_11, mvn_11, mbn_11, mpn_11)) (La : lRa ft_ mz = (((mkn_12, mvn_12, mbn_12, mpn_12), m38 g_10), 0)) (hF_15_0 : mpn_15 ≤ mz) (hF_15_2 : nU ft_ mz 5 15 44 (mkn_12, mvn_12, mbn_12, mpn_12) = (mkn_15, mvn_15, mbn_15, mpn_15)) (hF_15_3 : m38 frn_15 = nR 5 15 0 (mkn_12, mvn_12, mbn_12, mpn_12) (m38 g_10)) (hF_15_4 : (¬ nGG ft_ mz 5 15 44 (mkn_12, mvn_12, mbn_12, mpn_12) → mwn_15 = nE 5 15 (mkn_12, mvn_12, mbn_12, mpn_12))) (f_15_1_0 : nGG ft_ mz 5 15 44 (mkn_12, mvn_12, mbn_12, mpn_12)) (hR_15 : okR frn_15 cq 0 0 0) (Lb : lRb ft_ mz = (((mkn_15, mvn_15, mbn_15, mpn_15), m38 frn_15), 0)) (L0 : m38 frn_15 0 = nI cq) (e_19 : v_19 = ((nI cq) - 1)) (hF_20_0 : mpn_20 ≤ mz) (hF_20_2 : nU ft_ mz 0 v_19 44 (mkn_15, mvn_15, mbn_15, mpn_15) = (mkn_20, mvn_20, mbn_20, mpn_20)) (hF_20_3 : m38 frn_20 = nR 0 v_19 1 (mkn_15, mvn_15, mbn_15, mpn_15) (m38 frn_15)) (hF_20_4 : (¬ nGG ft_ mz 0 v_19 44 (mkn_15, mvn_15, mbn_15, mpn_15) → mwn_20 = nE 0 v_19 (mkn_15, mvn_15, mbn_15, mpn_15))) (f_20_1_0 : nGG ft_ mz 0 v_19 44 (mkn_15, mvn_15, mbn_15, mpn_15)) (hR_20 : okR frn_20 cq 0 0 0) (Lc : lRc ft_ mz = (((mkn_20, mvn_20, mbn_20, mpn_20), m38 frn_20), 0)) (hF_23_0 : mpn_23 ≤ mz) (hF_23_2 : nU ft_ mz 0 4 59 (mkn_20, mvn_20, mbn_20, mpn_20) = (mkn_23, mvn_23, mbn_23, mpn_23)) (hF_23_3 : m38 frn_23 = nR 0 4 2 (mkn_20, mvn_20, mbn_20, mpn_20) (m38 frn_20)) (hF_23_4 : (¬ nGG ft_ mz 0 4 59 (mkn_20, mvn_20, mbn_20, mpn_20) → mwn_23 = nE 0 4 (mkn_20, mvn_20, mbn_20, mpn_20))) (f_23_1_0 : nGG ft_ mz 0 4 59 (mkn_20, mvn_20, mbn_20, mpn_20)) (hR_23 : okR frn_23 cq 0 0 0) (Ld : lRd ft_ mz = (((mkn_23, mvn_23, mbn_23, mpn_23), m38 frn_23), 0)) (hF_26_0 : mpn_26 ≤ mz) (hF_26_2 : wS ft_ mz ((mkn_23, mvn_23, mbn_23, mpn_23), m38 frn_23) = ((mkn_26, mvn_26, mbn_26, mpn_26), m38 frn_26)) (hF_26_3 : (¬ wGG ft_ mz ((mkn_23, mvn_23, mbn_23, mpn_23), m38 frn_23) → mwn_26 = wE ft_ mz ((mkn_23, mvn_23, mbn_23, mpn_23), m38 frn_23))) (f_26_1_0 : wGG ft_ mz ((mkn_23, mvn_23, mbn_23, mpn_23), m38 frn_23)) (hR_26 : okR frn_26 cq (0 + 1) 0 0) (Le : lRe ft_ mz = (((mkn_26, mvn_26, mbn_26, mpn_26), m38 frn_26), 0)) (hnb_w_107 : w_107 ≤ mz) (hW6 : W_ ≤ 6) (hLw : wL ft_ mz (7 - W_) (((w_108, w_109, w_110, w_107), m38 w_112), 0) = wL ft_ mz 6 (lRe ft_ mz)) (c_198 : ¬ (w_108 = 1)) (LW : wL ft_ mz 6 (lRe ft_ mz) = (((w_108, w_109, w_110, w_107), m38 w_112), 0)) (hnb_w_207 : w_207 ≤ mz) (hK6 : K_ ≤ 6) (hLs : sL ft_ mz (7 - K_) (((w_208, w_209, w_210, w_207), m38 w_212), 0) = rR ft_ mz) (L4 : m38 w_212 4 = nI K_) (L5 : (nI K_ = 0 ↔ K_ = 0)) (c_228 : w_208 = 3) (c_232 : ¬ (K_ = 0)) (Lx : rR ft_ mz = (((w_208, w_209, w_210, w_207), m38 w_212), 0)) : (¬ (rR ft_ mz).2 = 0 → w_211 = (rR ft_ mz).2) := by
  first
  | (rw [Lx]; exact Ln)
  | (rw [Lx]; done)
  | (intro q_; rw [Lx]; grind)
  | grind
theorem lf_X8_readLevel_38 {mz : Nat} {ft_ : Nat → Int32} {w_3 : Nat → Int32} {g_10 : Nat → Int32} {mkn_11 : Int32} {mvn_11 : Int32} {mbn_11 : Int32} {mpn_11 : Nat} {mkn_12 : Int32} {mvn_12 : Int32} {mbn_12 : Int32} {mpn_12 : Nat} {mwn_12 : Int32} {mkn_15 : Int32} {mvn_15 : Int32} {mbn_15 : Int32} {mpn_15 : Nat} {mwn_15 : Int32} {frn_15 : Nat → Int32} {cq : Nat} {v_19 : Int32} {mkn_20 : Int32} {mvn_20 : Int32} {mbn_20 : Int32} {mpn_20 : Nat} {mwn_20 : Int32} {frn_20 : Nat → Int32} {mkn_23 : Int32} {mvn_23 : Int32} {mbn_23 : Int32} {mpn_23 : Nat} {mwn_23 : Int32} {frn_23 : Nat → Int32} {mkn_26 : Int32} {mvn_26 : Int32} {mbn_26 : Int32} {mpn_26 : Nat} {mwn_26 : Int32} {frn_26 : Nat → Int32} {w_107 : Nat} {w_108 : Int32} {w_109 : Int32} {w_110 : Int32} {w_112 : Nat → Int32} {W_ : Nat} {w_207 : Nat} {w_208 : Int32} {w_209 : Int32} {w_210 : Int32} {w_212 : Nat → Int32} {K_ : Nat} (hmz : mz ≤ 120) (hu_10 : g_10 = upd w_3 6 1) (Lr : m38 g_10 = r0) (hF_11_0 : mpn_11 ≤ mz) (hF_11_1 : nT ft_ mz 0 = (mkn_11, mvn_11, mbn_11, mpn_11)) (hF_12_0 : mpn_12 ≤ mz) (hF_12_1 : kU ft_ mz 109 (mkn_11, mvn_11, mbn_11, mpn_11) = (mkn_12, mvn_12, mbn_12, mpn_12)) (hF_12_2 : (¬ kG 109 (mkn_11, mvn_11, mbn_11, mpn_11) → mwn_12 = 1)) (f_12_1_0 : kG 109 (mkn_11, mvn_11, mbn_11, mpn_11)) (La : lRa ft_ mz = (((mkn_12, mvn_12, mbn_12, mpn_12), m38 g_10), 0)) (hF_15_0 : mpn_15 ≤ mz) (hF_15_2 : nU ft_ mz 5 15 44 (mkn_12, mvn_12, mbn_12, mpn_12) = (mkn_15, mvn_15, mbn_15, mpn_15)) (hF_15_3 : m38 frn_15 = nR 5 15 0 (mkn_12, mvn_12, mbn_12, mpn_12) (m38 g_10)) (hF_15_4 : (¬ nGG ft_ mz 5 15 44 (mkn_12, mvn_12, mbn_12, mpn_12) → mwn_15 = nE 5 15 (mkn_12, mvn_12, mbn_12, mpn_12))) (f_15_1_0 : nGG ft_ mz 5 15 44 (mkn_12, mvn_12, mbn_12, mpn_12)) (hR_15 : okR frn_15 cq 0 0 0) (Lb : lRb ft_ mz = (((mkn_15, mvn_15, mbn_15, mpn_15), m38 frn_15), 0)) (L0 : m38 frn_15 0 = nI cq) (e_19 : v_19 = ((nI cq) - 1)) (hF_20_0 : mpn_20 ≤ mz) (hF_20_2 : nU ft_ mz 0 v_19 44 (mkn_15, mvn_15, mbn_15, mpn_15) = (mkn_20, mvn_20, mbn_20, mpn_20)) (hF_20_3 : m38 frn_20 = nR 0 v_19 1 (mkn_15, mvn_15, mbn_15, mpn_15) (m38 frn_15)) (hF_20_4 : (¬ nGG ft_ mz 0 v_19 44 (mkn_15, mvn_15, mbn_15, mpn_15) → mwn_20 = nE 0 v_19 (mkn_15, mvn_15, mbn_15, mpn_15))) (f_20_1_0 : nGG ft_ mz 0 v_19 44 (mkn_15, mvn_15, mbn_15, mpn_15)) (hR_20 : okR frn_20 cq 0 0 0) (Lc : lRc ft_ mz = (((mkn_20, mvn_20, mbn_20, mpn_20), m38 frn_20), 0)) (hF_23_0 : mpn_23 ≤ mz) (hF_23_2 : nU ft_ mz 0 4 59 (mkn_20, mvn_20, mbn_20, mpn_20) = (mkn_23, mvn_23, mbn_23, mpn_23)) (hF_23_3 : m38 frn_23 = nR 0 4 2 (mkn_20, mvn_20, mbn_20, mpn_20) (m38 frn_20)) (hF_23_4 : (¬ nGG ft_ mz 0 4 59 (mkn_20, mvn_20, mbn_20, mpn_20) → mwn_23 = nE 0 4 (mkn_20, mvn_20, mbn_20, mpn_20))) (f_23_1_0 : nGG ft_ mz 0 4 59 (mkn_20, mvn_20, mbn_20, mpn_20)) (hR_23 : okR frn_23 cq 0 0 0) (Ld : lRd ft_ mz = (((mkn_23, mvn_23, mbn_23, mpn_23), m38 frn_23), 0)) (hF_26_0 : mpn_26 ≤ mz) (hF_26_2 : wS ft_ mz ((mkn_23, mvn_23, mbn_23, mpn_23), m38 frn_23) = ((mkn_26, mvn_26, mbn_26, mpn_26), m38 frn_26)) (hF_26_3 : (¬ wGG ft_ mz ((mkn_23, mvn_23, mbn_23, mpn_23), m38 frn_23) → mwn_26 = wE ft_ mz ((mkn_23, mvn_23, mbn_23, mpn_23), m38 frn_23))) (f_26_1_0 : wGG ft_ mz ((mkn_23, mvn_23, mbn_23, mpn_23), m38 frn_23)) (hR_26 : okR frn_26 cq (0 + 1) 0 0) (Le : lRe ft_ mz = (((mkn_26, mvn_26, mbn_26, mpn_26), m38 frn_26), 0)) (hnb_w_107 : w_107 ≤ mz) (hW6 : W_ ≤ 6) (hLw : wL ft_ mz (7 - W_) (((w_108, w_109, w_110, w_107), m38 w_112), 0) = wL ft_ mz 6 (lRe ft_ mz)) (c_198 : ¬ (w_108 = 1)) (LW : wL ft_ mz 6 (lRe ft_ mz) = (((w_108, w_109, w_110, w_107), m38 w_112), 0)) (hnb_w_207 : w_207 ≤ mz) (hK6 : K_ ≤ 6) (hLs : sL ft_ mz (7 - K_) (((w_208, w_209, w_210, w_207), m38 w_212), 0) = rR ft_ mz) (L4 : m38 w_212 4 = nI K_) (L5 : (nI K_ = 0 ↔ K_ = 0)) (c_228 : w_208 = 3) (c_232 : ¬ (K_ = 0)) (Lx : rR ft_ mz = (((w_208, w_209, w_210, w_207), m38 w_212), 0)) : (rR ft_ mz).2 = 0 := by
  first
  | (rw [Lx]; exact Ln)
  | (rw [Lx]; done)
  | (intro q_; rw [Lx]; grind)
  | grind
theorem lf_X8_readLevel_39 {mz : Nat} {ft_ : Nat → Int32} {w_3 : Nat → Int32} {g_10 : Nat → Int32} {mkn_11 : Int32} {mvn_11 : Int32} {mbn_11 : Int32} {mpn_11 : Nat} {mkn_12 : Int32} {mvn_12 : Int32} {mbn_12 : Int32} {mpn_12 : Nat} {mwn_12 : Int32} {mkn_15 : Int32} {mvn_15 : Int32} {mbn_15 : Int32} {mpn_15 : Nat} {mwn_15 : Int32} {frn_15 : Nat → Int32} {cq : Nat} {v_19 : Int32} {mkn_20 : Int32} {mvn_20 : Int32} {mbn_20 : Int32} {mpn_20 : Nat} {mwn_20 : Int32} {frn_20 : Nat → Int32} {mkn_23 : Int32} {mvn_23 : Int32} {mbn_23 : Int32} {mpn_23 : Nat} {mwn_23 : Int32} {frn_23 : Nat → Int32} {mkn_26 : Int32} {mvn_26 : Int32} {mbn_26 : Int32} {mpn_26 : Nat} {mwn_26 : Int32} {frn_26 : Nat → Int32} {w_107 : Nat} {w_108 : Int32} {w_109 : Int32} {w_110 : Int32} {w_112 : Nat → Int32} {W_ : Nat} {w_207 : Nat} {w_208 : Int32} {w_209 : Int32} {w_210 : Int32} {w_212 : Nat → Int32} {K_ : Nat} {mkn_233 : Int32} {mvn_233 : Int32} {mbn_233 : Int32} {mpn_233 : Nat} {mwn_233 : Int32} {frn_233 : Nat → Int32} (hmz : mz ≤ 120) (hu_10 : g_10 = upd w_3 6 1) (Lr : m38 g_10 = r0) (hF_11_0 : mpn_11 ≤ mz) (hF_11_1 : nT ft_ mz 0 = (mkn_11, mvn_11, mbn_11, mpn_11)) (hF_12_0 : mpn_12 ≤ mz) (hF_12_1 : kU ft_ mz 109 (mkn_11, mvn_11, mbn_11, mpn_11) = (mkn_12, mvn_12, mbn_12, mpn_12)) (hF_12_2 : (¬ kG 109 (mkn_11, mvn_11, mbn_11, mpn_11) → mwn_12 = 1)) (f_12_1_0 : kG 109 (mkn_11, mvn_11, mbn_11, mpn_11)) (La : lRa ft_ mz = (((mkn_12, mvn_12, mbn_12, mpn_12), m38 g_10), 0)) (hF_15_0 : mpn_15 ≤ mz) (hF_15_2 : nU ft_ mz 5 15 44 (mkn_12, mvn_12, mbn_12, mpn_12) = (mkn_15, mvn_15, mbn_15, mpn_15)) (hF_15_3 : m38 frn_15 = nR 5 15 0 (mkn_12, mvn_12, mbn_12, mpn_12) (m38 g_10)) (hF_15_4 : (¬ nGG ft_ mz 5 15 44 (mkn_12, mvn_12, mbn_12, mpn_12) → mwn_15 = nE 5 15 (mkn_12, mvn_12, mbn_12, mpn_12))) (f_15_1_0 : nGG ft_ mz 5 15 44 (mkn_12, mvn_12, mbn_12, mpn_12)) (hR_15 : okR frn_15 cq 0 0 0) (Lb : lRb ft_ mz = (((mkn_15, mvn_15, mbn_15, mpn_15), m38 frn_15), 0)) (L0 : m38 frn_15 0 = nI cq) (e_19 : v_19 = ((nI cq) - 1)) (hF_20_0 : mpn_20 ≤ mz) (hF_20_2 : nU ft_ mz 0 v_19 44 (mkn_15, mvn_15, mbn_15, mpn_15) = (mkn_20, mvn_20, mbn_20, mpn_20)) (hF_20_3 : m38 frn_20 = nR 0 v_19 1 (mkn_15, mvn_15, mbn_15, mpn_15) (m38 frn_15)) (hF_20_4 : (¬ nGG ft_ mz 0 v_19 44 (mkn_15, mvn_15, mbn_15, mpn_15) → mwn_20 = nE 0 v_19 (mkn_15, mvn_15, mbn_15, mpn_15))) (f_20_1_0 : nGG ft_ mz 0 v_19 44 (mkn_15, mvn_15, mbn_15, mpn_15)) (hR_20 : okR frn_20 cq 0 0 0) (Lc : lRc ft_ mz = (((mkn_20, mvn_20, mbn_20, mpn_20), m38 frn_20), 0)) (hF_23_0 : mpn_23 ≤ mz) (hF_23_2 : nU ft_ mz 0 4 59 (mkn_20, mvn_20, mbn_20, mpn_20) = (mkn_23, mvn_23, mbn_23, mpn_23)) (hF_23_3 : m38 frn_23 = nR 0 4 2 (mkn_20, mvn_20, mbn_20, mpn_20) (m38 frn_20)) (hF_23_4 : (¬ nGG ft_ mz 0 4 59 (mkn_20, mvn_20, mbn_20, mpn_20) → mwn_23 = nE 0 4 (mkn_20, mvn_20, mbn_20, mpn_20))) (f_23_1_0 : nGG ft_ mz 0 4 59 (mkn_20, mvn_20, mbn_20, mpn_20)) (hR_23 : okR frn_23 cq 0 0 0) (Ld : lRd ft_ mz = (((mkn_23, mvn_23, mbn_23, mpn_23), m38 frn_23), 0)) (hF_26_0 : mpn_26 ≤ mz) (hF_26_2 : wS ft_ mz ((mkn_23, mvn_23, mbn_23, mpn_23), m38 frn_23) = ((mkn_26, mvn_26, mbn_26, mpn_26), m38 frn_26)) (hF_26_3 : (¬ wGG ft_ mz ((mkn_23, mvn_23, mbn_23, mpn_23), m38 frn_23) → mwn_26 = wE ft_ mz ((mkn_23, mvn_23, mbn_23, mpn_23), m38 frn_23))) (f_26_1_0 : wGG ft_ mz ((mkn_23, mvn_23, mbn_23, mpn_23), m38 frn_23)) (hR_26 : okR frn_26 cq (0 + 1) 0 0) (Le : lRe ft_ mz = (((mkn_26, mvn_26, mbn_26, mpn_26), m38 frn_26), 0)) (hnb_w_107 : w_107 ≤ mz) (hW6 : W_ ≤ 6) (hLw : wL ft_ mz (7 - W_) (((w_108, w_109, w_110, w_107), m38 w_112), 0) = wL ft_ mz 6 (lRe ft_ mz)) (c_198 : ¬ (w_108 = 1)) (LW : wL ft_ mz 6 (lRe ft_ mz) = (((w_108, w_109, w_110, w_107), m38 w_112), 0)) (hnb_w_207 : w_207 ≤ mz) (hK6 : K_ ≤ 6) (hLs : sL ft_ mz (7 - K_) (((w_208, w_209, w_210, w_207), m38 w_212), 0) = rR ft_ mz) (L4 : m38 w_212 4 = nI K_) (L5 : (nI K_ = 0 ↔ K_ = 0)) (c_228 : w_208 = 3) (c_232 : K_ = 0) (hF_233_0 : mpn_233 ≤ mz) (hF_233_2 : sS ft_ mz ((w_208, w_209, w_210, w_207), m38 w_212) = ((mkn_233, mvn_233, mbn_233, mpn_233), m38 frn_233)) (hF_233_3 : (¬ sGG ft_ mz ((w_208, w_209, w_210, w_207), m38 w_212) → mwn_233 = sE ft_ mz ((w_208, w_209, w_210, w_207), m38 w_212))) (f_233_0_0 : ¬ sGG ft_ mz ((w_208, w_209, w_210, w_207), m38 w_212)) : rR ft_ mz = (((mkn_233, mvn_233, mbn_233, mpn_233), m38 frn_233), sE ft_ mz ((w_208, w_209, w_210, w_207), m38 w_212)) := by
  have h8 : sR ft_ mz ((w_208, w_209, w_210, w_207), m38 w_212) = (((mkn_233, mvn_233, mbn_233, mpn_233), m38 frn_233), sE ft_ mz ((w_208, w_209, w_210, w_207), m38 w_212)) := (by simp only [sR]; grind)
  rw [← hLs, sL_go (by omega) (by exact ⟨rfl, by grind⟩)]
  show sL ft_ mz (7 - K_ - 1) (sR ft_ mz ((w_208, w_209, w_210, w_207), m38 w_212)) = _
  rw [h8, sL_stop (fun q => sE_nz _ _ _ q.1)]
theorem lf_X8_readLevel_40 {mz : Nat} {ft_ : Nat → Int32} {w_3 : Nat → Int32} {g_10 : Nat → Int32} {mkn_11 : Int32} {mvn_11 : Int32} {mbn_11 : Int32} {mpn_11 : Nat} {mkn_12 : Int32} {mvn_12 : Int32} {mbn_12 : Int32} {mpn_12 : Nat} {mwn_12 : Int32} {mkn_15 : Int32} {mvn_15 : Int32} {mbn_15 : Int32} {mpn_15 : Nat} {mwn_15 : Int32} {frn_15 : Nat → Int32} {cq : Nat} {v_19 : Int32} {mkn_20 : Int32} {mvn_20 : Int32} {mbn_20 : Int32} {mpn_20 : Nat} {mwn_20 : Int32} {frn_20 : Nat → Int32} {mkn_23 : Int32} {mvn_23 : Int32} {mbn_23 : Int32} {mpn_23 : Nat} {mwn_23 : Int32} {frn_23 : Nat → Int32} {mkn_26 : Int32} {mvn_26 : Int32} {mbn_26 : Int32} {mpn_26 : Nat} {mwn_26 : Int32} {frn_26 : Nat → Int32} {w_107 : Nat} {w_108 : Int32} {w_109 : Int32} {w_110 : Int32} {w_112 : Nat → Int32} {W_ : Nat} {w_207 : Nat} {w_208 : Int32} {w_209 : Int32} {w_210 : Int32} {w_212 : Nat → Int32} {K_ : Nat} {mkn_233 : Int32} {mvn_233 : Int32} {mbn_233 : Int32} {mpn_233 : Nat} {mwn_233 : Int32} {frn_233 : Nat → Int32} (hmz : mz ≤ 120) (hu_10 : g_10 = upd w_3 6 1) (Lr : m38 g_10 = r0) (hF_11_0 : mpn_11 ≤ mz) (hF_11_1 : nT ft_ mz 0 = (mkn_11, mvn_11, mbn_11, mpn_11)) (hF_12_0 : mpn_12 ≤ mz) (hF_12_1 : kU ft_ mz 109 (mkn_11, mvn_11, mbn_11, mpn_11) = (mkn_12, mvn_12, mbn_12, mpn_12)) (hF_12_2 : (¬ kG 109 (mkn_11, mvn_11, mbn_11, mpn_11) → mwn_12 = 1)) (f_12_1_0 : kG 109 (mkn_11, mvn_11, mbn_11, mpn_11)) (La : lRa ft_ mz = (((mkn_12, mvn_12, mbn_12, mpn_12), m38 g_10), 0)) (hF_15_0 : mpn_15 ≤ mz) (hF_15_2 : nU ft_ mz 5 15 44 (mkn_12, mvn_12, mbn_12, mpn_12) = (mkn_15, mvn_15, mbn_15, mpn_15)) (hF_15_3 : m38 frn_15 = nR 5 15 0 (mkn_12, mvn_12, mbn_12, mpn_12) (m38 g_10)) (hF_15_4 : (¬ nGG ft_ mz 5 15 44 (mkn_12, mvn_12, mbn_12, mpn_12) → mwn_15 = nE 5 15 (mkn_12, mvn_12, mbn_12, mpn_12))) (f_15_1_0 : nGG ft_ mz 5 15 44 (mkn_12, mvn_12, mbn_12, mpn_12)) (hR_15 : okR frn_15 cq 0 0 0) (Lb : lRb ft_ mz = (((mkn_15, mvn_15, mbn_15, mpn_15), m38 frn_15), 0)) (L0 : m38 frn_15 0 = nI cq) (e_19 : v_19 = ((nI cq) - 1)) (hF_20_0 : mpn_20 ≤ mz) (hF_20_2 : nU ft_ mz 0 v_19 44 (mkn_15, mvn_15, mbn_15, mpn_15) = (mkn_20, mvn_20, mbn_20, mpn_20)) (hF_20_3 : m38 frn_20 = nR 0 v_19 1 (mkn_15, mvn_15, mbn_15, mpn_15) (m38 frn_15)) (hF_20_4 : (¬ nGG ft_ mz 0 v_19 44 (mkn_15, mvn_15, mbn_15, mpn_15) → mwn_20 = nE 0 v_19 (mkn_15, mvn_15, mbn_15, mpn_15))) (f_20_1_0 : nGG ft_ mz 0 v_19 44 (mkn_15, mvn_15, mbn_15, mpn_15)) (hR_20 : okR frn_20 cq 0 0 0) (Lc : lRc ft_ mz = (((mkn_20, mvn_20, mbn_20, mpn_20), m38 frn_20), 0)) (hF_23_0 : mpn_23 ≤ mz) (hF_23_2 : nU ft_ mz 0 4 59 (mkn_20, mvn_20, mbn_20, mpn_20) = (mkn_23, mvn_23, mbn_23, mpn_23)) (hF_23_3 : m38 frn_23 = nR 0 4 2 (mkn_20, mvn_20, mbn_20, mpn_20) (m38 frn_20)) (hF_23_4 : (¬ nGG ft_ mz 0 4 59 (mkn_20, mvn_20, mbn_20, mpn_20) → mwn_23 = nE 0 4 (mkn_20, mvn_20, mbn_20, mpn_20))) (f_23_1_0 : nGG ft_ mz 0 4 59 (mkn_20, mvn_20, mbn_20, mpn_20)) (hR_23 : okR frn_23 cq 0 0 0) (Ld : lRd ft_ mz = (((mkn_23, mvn_23, mbn_23, mpn_23), m38 frn_23), 0)) (hF_26_0 : mpn_26 ≤ mz) (hF_26_2 : wS ft_ mz ((mkn_23, mvn_23, mbn_23, mpn_23), m38 frn_23) = ((mkn_26, mvn_26, mbn_26, mpn_26), m38 frn_26)) (hF_26_3 : (¬ wGG ft_ mz ((mkn_23, mvn_23, mbn_23, mpn_23), m38 frn_23) → mwn_26 = wE ft_ mz ((mkn_23, mvn_23, mbn_23, mpn_23), m38 frn_23))) (f_26_1_0 : wGG ft_ mz ((mkn_23, mvn_23, mbn_23, mpn_23), m38 frn_23)) (hR_26 : okR frn_26 cq (0 + 1) 0 0) (Le : lRe ft_ mz = (((mkn_26, mvn_26, mbn_26, mpn_26), m38 frn_26), 0)) (hnb_w_107 : w_107 ≤ mz) (hW6 : W_ ≤ 6) (hLw : wL ft_ mz (7 - W_) (((w_108, w_109, w_110, w_107), m38 w_112), 0) = wL ft_ mz 6 (lRe ft_ mz)) (c_198 : ¬ (w_108 = 1)) (LW : wL ft_ mz 6 (lRe ft_ mz) = (((w_108, w_109, w_110, w_107), m38 w_112), 0)) (hnb_w_207 : w_207 ≤ mz) (hK6 : K_ ≤ 6) (hLs : sL ft_ mz (7 - K_) (((w_208, w_209, w_210, w_207), m38 w_212), 0) = rR ft_ mz) (L4 : m38 w_212 4 = nI K_) (L5 : (nI K_ = 0 ↔ K_ = 0)) (c_228 : w_208 = 3) (c_232 : K_ = 0) (hF_233_0 : mpn_233 ≤ mz) (hF_233_2 : sS ft_ mz ((w_208, w_209, w_210, w_207), m38 w_212) = ((mkn_233, mvn_233, mbn_233, mpn_233), m38 frn_233)) (hF_233_3 : (¬ sGG ft_ mz ((w_208, w_209, w_210, w_207), m38 w_212) → mwn_233 = sE ft_ mz ((w_208, w_209, w_210, w_207), m38 w_212))) (f_233_0_0 : ¬ sGG ft_ mz ((w_208, w_209, w_210, w_207), m38 w_212)) (Lx : rR ft_ mz = (((mkn_233, mvn_233, mbn_233, mpn_233), m38 frn_233), sE ft_ mz ((w_208, w_209, w_210, w_207), m38 w_212))) (Ln : ¬ sE ft_ mz ((w_208, w_209, w_210, w_207), m38 w_212) = 0) : (rR ft_ mz).1 = ((mkn_233, mvn_233, mbn_233, mpn_233), m38 frn_233) := by
  first
  | (rw [Lx]; exact Ln)
  | (rw [Lx]; done)
  | (intro q_; rw [Lx]; grind)
  | grind
theorem lf_X8_readLevel_41 {mz : Nat} {ft_ : Nat → Int32} {w_3 : Nat → Int32} {g_10 : Nat → Int32} {mkn_11 : Int32} {mvn_11 : Int32} {mbn_11 : Int32} {mpn_11 : Nat} {mkn_12 : Int32} {mvn_12 : Int32} {mbn_12 : Int32} {mpn_12 : Nat} {mwn_12 : Int32} {mkn_15 : Int32} {mvn_15 : Int32} {mbn_15 : Int32} {mpn_15 : Nat} {mwn_15 : Int32} {frn_15 : Nat → Int32} {cq : Nat} {v_19 : Int32} {mkn_20 : Int32} {mvn_20 : Int32} {mbn_20 : Int32} {mpn_20 : Nat} {mwn_20 : Int32} {frn_20 : Nat → Int32} {mkn_23 : Int32} {mvn_23 : Int32} {mbn_23 : Int32} {mpn_23 : Nat} {mwn_23 : Int32} {frn_23 : Nat → Int32} {mkn_26 : Int32} {mvn_26 : Int32} {mbn_26 : Int32} {mpn_26 : Nat} {mwn_26 : Int32} {frn_26 : Nat → Int32} {w_107 : Nat} {w_108 : Int32} {w_109 : Int32} {w_110 : Int32} {w_112 : Nat → Int32} {W_ : Nat} {w_207 : Nat} {w_208 : Int32} {w_209 : Int32} {w_210 : Int32} {w_212 : Nat → Int32} {K_ : Nat} {mkn_233 : Int32} {mvn_233 : Int32} {mbn_233 : Int32} {mpn_233 : Nat} {mwn_233 : Int32} {frn_233 : Nat → Int32} (hmz : mz ≤ 120) (hu_10 : g_10 = upd w_3 6 1) (Lr : m38 g_10 = r0) (hF_11_0 : mpn_11 ≤ mz) (hF_11_1 : nT ft_ mz 0 = (mkn_11, mvn_11, mbn_11, mpn_11)) (hF_12_0 : mpn_12 ≤ mz) (hF_12_1 : kU ft_ mz 109 (mkn_11, mvn_11, mbn_11, mpn_11) = (mkn_12, mvn_12, mbn_12, mpn_12)) (hF_12_2 : (¬ kG 109 (mkn_11, mvn_11, mbn_11, mpn_11) → mwn_12 = 1)) (f_12_1_0 : kG 109 (mkn_11, mvn_11, mbn_11, mpn_11)) (La : lRa ft_ mz = (((mkn_12, mvn_12, mbn_12, mpn_12), m38 g_10), 0)) (hF_15_0 : mpn_15 ≤ mz) (hF_15_2 : nU ft_ mz 5 15 44 (mkn_12, mvn_12, mbn_12, mpn_12) = (mkn_15, mvn_15, mbn_15, mpn_15)) (hF_15_3 : m38 frn_15 = nR 5 15 0 (mkn_12, mvn_12, mbn_12, mpn_12) (m38 g_10)) (hF_15_4 : (¬ nGG ft_ mz 5 15 44 (mkn_12, mvn_12, mbn_12, mpn_12) → mwn_15 = nE 5 15 (mkn_12, mvn_12, mbn_12, mpn_12))) (f_15_1_0 : nGG ft_ mz 5 15 44 (mkn_12, mvn_12, mbn_12, mpn_12)) (hR_15 : okR frn_15 cq 0 0 0) (Lb : lRb ft_ mz = (((mkn_15, mvn_15, mbn_15, mpn_15), m38 frn_15), 0)) (L0 : m38 frn_15 0 = nI cq) (e_19 : v_19 = ((nI cq) - 1)) (hF_20_0 : mpn_20 ≤ mz) (hF_20_2 : nU ft_ mz 0 v_19 44 (mkn_15, mvn_15, mbn_15, mpn_15) = (mkn_20, mvn_20, mbn_20, mpn_20)) (hF_20_3 : m38 frn_20 = nR 0 v_19 1 (mkn_15, mvn_15, mbn_15, mpn_15) (m38 frn_15)) (hF_20_4 : (¬ nGG ft_ mz 0 v_19 44 (mkn_15, mvn_15, mbn_15, mpn_15) → mwn_20 = nE 0 v_19 (mkn_15, mvn_15, mbn_15, mpn_15))) (f_20_1_0 : nGG ft_ mz 0 v_19 44 (mkn_15, mvn_15, mbn_15, mpn_15)) (hR_20 : okR frn_20 cq 0 0 0) (Lc : lRc ft_ mz = (((mkn_20, mvn_20, mbn_20, mpn_20), m38 frn_20), 0)) (hF_23_0 : mpn_23 ≤ mz) (hF_23_2 : nU ft_ mz 0 4 59 (mkn_20, mvn_20, mbn_20, mpn_20) = (mkn_23, mvn_23, mbn_23, mpn_23)) (hF_23_3 : m38 frn_23 = nR 0 4 2 (mkn_20, mvn_20, mbn_20, mpn_20) (m38 frn_20)) (hF_23_4 : (¬ nGG ft_ mz 0 4 59 (mkn_20, mvn_20, mbn_20, mpn_20) → mwn_23 = nE 0 4 (mkn_20, mvn_20, mbn_20, mpn_20))) (f_23_1_0 : nGG ft_ mz 0 4 59 (mkn_20, mvn_20, mbn_20, mpn_20)) (hR_23 : okR frn_23 cq 0 0 0) (Ld : lRd ft_ mz = (((mkn_23, mvn_23, mbn_23, mpn_23), m38 frn_23), 0)) (hF_26_0 : mpn_26 ≤ mz) (hF_26_2 : wS ft_ mz ((mkn_23, mvn_23, mbn_23, mpn_23), m38 frn_23) = ((mkn_26, mvn_26, mbn_26, mpn_26), m38 frn_26)) (hF_26_3 : (¬ wGG ft_ mz ((mkn_23, mvn_23, mbn_23, mpn_23), m38 frn_23) → mwn_26 = wE ft_ mz ((mkn_23, mvn_23, mbn_23, mpn_23), m38 frn_23))) (f_26_1_0 : wGG ft_ mz ((mkn_23, mvn_23, mbn_23, mpn_23), m38 frn_23)) (hR_26 : okR frn_26 cq (0 + 1) 0 0) (Le : lRe ft_ mz = (((mkn_26, mvn_26, mbn_26, mpn_26), m38 frn_26), 0)) (hnb_w_107 : w_107 ≤ mz) (hW6 : W_ ≤ 6) (hLw : wL ft_ mz (7 - W_) (((w_108, w_109, w_110, w_107), m38 w_112), 0) = wL ft_ mz 6 (lRe ft_ mz)) (c_198 : ¬ (w_108 = 1)) (LW : wL ft_ mz 6 (lRe ft_ mz) = (((w_108, w_109, w_110, w_107), m38 w_112), 0)) (hnb_w_207 : w_207 ≤ mz) (hK6 : K_ ≤ 6) (hLs : sL ft_ mz (7 - K_) (((w_208, w_209, w_210, w_207), m38 w_212), 0) = rR ft_ mz) (L4 : m38 w_212 4 = nI K_) (L5 : (nI K_ = 0 ↔ K_ = 0)) (c_228 : w_208 = 3) (c_232 : K_ = 0) (hF_233_0 : mpn_233 ≤ mz) (hF_233_2 : sS ft_ mz ((w_208, w_209, w_210, w_207), m38 w_212) = ((mkn_233, mvn_233, mbn_233, mpn_233), m38 frn_233)) (hF_233_3 : (¬ sGG ft_ mz ((w_208, w_209, w_210, w_207), m38 w_212) → mwn_233 = sE ft_ mz ((w_208, w_209, w_210, w_207), m38 w_212))) (f_233_0_0 : ¬ sGG ft_ mz ((w_208, w_209, w_210, w_207), m38 w_212)) (Lx : rR ft_ mz = (((mkn_233, mvn_233, mbn_233, mpn_233), m38 frn_233), sE ft_ mz ((w_208, w_209, w_210, w_207), m38 w_212))) (Ln : ¬ sE ft_ mz ((w_208, w_209, w_210, w_207), m38 w_212) = 0) : (¬ (rR ft_ mz).2 = 0 → mwn_233 = (rR ft_ mz).2) := by
  first
  | (rw [Lx]; exact Ln)
  | (rw [Lx]; done)
  | (intro q_; rw [Lx]; grind)
  | grind
theorem lf_X8_readLevel_42 {mz : Nat} {ft_ : Nat → Int32} {w_3 : Nat → Int32} {g_10 : Nat → Int32} {mkn_11 : Int32} {mvn_11 : Int32} {mbn_11 : Int32} {mpn_11 : Nat} {mkn_12 : Int32} {mvn_12 : Int32} {mbn_12 : Int32} {mpn_12 : Nat} {mwn_12 : Int32} {mkn_15 : Int32} {mvn_15 : Int32} {mbn_15 : Int32} {mpn_15 : Nat} {mwn_15 : Int32} {frn_15 : Nat → Int32} {cq : Nat} {v_19 : Int32} {mkn_20 : Int32} {mvn_20 : Int32} {mbn_20 : Int32} {mpn_20 : Nat} {mwn_20 : Int32} {frn_20 : Nat → Int32} {mkn_23 : Int32} {mvn_23 : Int32} {mbn_23 : Int32} {mpn_23 : Nat} {mwn_23 : Int32} {frn_23 : Nat → Int32} {mkn_26 : Int32} {mvn_26 : Int32} {mbn_26 : Int32} {mpn_26 : Nat} {mwn_26 : Int32} {frn_26 : Nat → Int32} {w_107 : Nat} {w_108 : Int32} {w_109 : Int32} {w_110 : Int32} {w_112 : Nat → Int32} {W_ : Nat} {w_207 : Nat} {w_208 : Int32} {w_209 : Int32} {w_210 : Int32} {w_212 : Nat → Int32} {K_ : Nat} {mkn_233 : Int32} {mvn_233 : Int32} {mbn_233 : Int32} {mpn_233 : Nat} {mwn_233 : Int32} {frn_233 : Nat → Int32} (hmz : mz ≤ 120) (hu_10 : g_10 = upd w_3 6 1) (Lr : m38 g_10 = r0) (hF_11_0 : mpn_11 ≤ mz) (hF_11_1 : nT ft_ mz 0 = (mkn_11, mvn_11, mbn_11, mpn_11)) (hF_12_0 : mpn_12 ≤ mz) (hF_12_1 : kU ft_ mz 109 (mkn_11, mvn_11, mbn_11, mpn_11) = (mkn_12, mvn_12, mbn_12, mpn_12)) (hF_12_2 : (¬ kG 109 (mkn_11, mvn_11, mbn_11, mpn_11) → mwn_12 = 1)) (f_12_1_0 : kG 109 (mkn_11, mvn_11, mbn_11, mpn_11)) (La : lRa ft_ mz = (((mkn_12, mvn_12, mbn_12, mpn_12), m38 g_10), 0)) (hF_15_0 : mpn_15 ≤ mz) (hF_15_2 : nU ft_ mz 5 15 44 (mkn_12, mvn_12, mbn_12, mpn_12) = (mkn_15, mvn_15, mbn_15, mpn_15)) (hF_15_3 : m38 frn_15 = nR 5 15 0 (mkn_12, mvn_12, mbn_12, mpn_12) (m38 g_10)) (hF_15_4 : (¬ nGG ft_ mz 5 15 44 (mkn_12, mvn_12, mbn_12, mpn_12) → mwn_15 = nE 5 15 (mkn_12, mvn_12, mbn_12, mpn_12))) (f_15_1_0 : nGG ft_ mz 5 15 44 (mkn_12, mvn_12, mbn_12, mpn_12)) (hR_15 : okR frn_15 cq 0 0 0) (Lb : lRb ft_ mz = (((mkn_15, mvn_15, mbn_15, mpn_15), m38 frn_15), 0)) (L0 : m38 frn_15 0 = nI cq) (e_19 : v_19 = ((nI cq) - 1)) (hF_20_0 : mpn_20 ≤ mz) (hF_20_2 : nU ft_ mz 0 v_19 44 (mkn_15, mvn_15, mbn_15, mpn_15) = (mkn_20, mvn_20, mbn_20, mpn_20)) (hF_20_3 : m38 frn_20 = nR 0 v_19 1 (mkn_15, mvn_15, mbn_15, mpn_15) (m38 frn_15)) (hF_20_4 : (¬ nGG ft_ mz 0 v_19 44 (mkn_15, mvn_15, mbn_15, mpn_15) → mwn_20 = nE 0 v_19 (mkn_15, mvn_15, mbn_15, mpn_15))) (f_20_1_0 : nGG ft_ mz 0 v_19 44 (mkn_15, mvn_15, mbn_15, mpn_15)) (hR_20 : okR frn_20 cq 0 0 0) (Lc : lRc ft_ mz = (((mkn_20, mvn_20, mbn_20, mpn_20), m38 frn_20), 0)) (hF_23_0 : mpn_23 ≤ mz) (hF_23_2 : nU ft_ mz 0 4 59 (mkn_20, mvn_20, mbn_20, mpn_20) = (mkn_23, mvn_23, mbn_23, mpn_23)) (hF_23_3 : m38 frn_23 = nR 0 4 2 (mkn_20, mvn_20, mbn_20, mpn_20) (m38 frn_20)) (hF_23_4 : (¬ nGG ft_ mz 0 4 59 (mkn_20, mvn_20, mbn_20, mpn_20) → mwn_23 = nE 0 4 (mkn_20, mvn_20, mbn_20, mpn_20))) (f_23_1_0 : nGG ft_ mz 0 4 59 (mkn_20, mvn_20, mbn_20, mpn_20)) (hR_23 : okR frn_23 cq 0 0 0) (Ld : lRd ft_ mz = (((mkn_23, mvn_23, mbn_23, mpn_23), m38 frn_23), 0)) (hF_26_0 : mpn_26 ≤ mz) (hF_26_2 : wS ft_ mz ((mkn_23, mvn_23, mbn_23, mpn_23), m38 frn_23) = ((mkn_26, mvn_26, mbn_26, mpn_26), m38 frn_26)) (hF_26_3 : (¬ wGG ft_ mz ((mkn_23, mvn_23, mbn_23, mpn_23), m38 frn_23) → mwn_26 = wE ft_ mz ((mkn_23, mvn_23, mbn_23, mpn_23), m38 frn_23))) (f_26_1_0 : wGG ft_ mz ((mkn_23, mvn_23, mbn_23, mpn_23), m38 frn_23)) (hR_26 : okR frn_26 cq (0 + 1) 0 0) (Le : lRe ft_ mz = (((mkn_26, mvn_26, mbn_26, mpn_26), m38 frn_26), 0)) (hnb_w_107 : w_107 ≤ mz) (hW6 : W_ ≤ 6) (hLw : wL ft_ mz (7 - W_) (((w_108, w_109, w_110, w_107), m38 w_112), 0) = wL ft_ mz 6 (lRe ft_ mz)) (c_198 : ¬ (w_108 = 1)) (LW : wL ft_ mz 6 (lRe ft_ mz) = (((w_108, w_109, w_110, w_107), m38 w_112), 0)) (hnb_w_207 : w_207 ≤ mz) (hK6 : K_ ≤ 6) (hLs : sL ft_ mz (7 - K_) (((w_208, w_209, w_210, w_207), m38 w_212), 0) = rR ft_ mz) (L4 : m38 w_212 4 = nI K_) (L5 : (nI K_ = 0 ↔ K_ = 0)) (c_228 : w_208 = 3) (c_232 : K_ = 0) (hF_233_0 : mpn_233 ≤ mz) (hF_233_2 : sS ft_ mz ((w_208, w_209, w_210, w_207), m38 w_212) = ((mkn_233, mvn_233, mbn_233, mpn_233), m38 frn_233)) (hF_233_3 : (¬ sGG ft_ mz ((w_208, w_209, w_210, w_207), m38 w_212) → mwn_233 = sE ft_ mz ((w_208, w_209, w_210, w_207), m38 w_212))) (f_233_0_0 : ¬ sGG ft_ mz ((w_208, w_209, w_210, w_207), m38 w_212)) (Lx : rR ft_ mz = (((mkn_233, mvn_233, mbn_233, mpn_233), m38 frn_233), sE ft_ mz ((w_208, w_209, w_210, w_207), m38 w_212))) (Ln : ¬ sE ft_ mz ((w_208, w_209, w_210, w_207), m38 w_212) = 0) : ¬ (rR ft_ mz).2 = 0 := by
  first
  | (rw [Lx]; exact Ln)
  | (rw [Lx]; done)
  | (intro q_; rw [Lx]; grind)
  | grind
theorem lf_X8_readLevel_43 {mz : Nat} {ft_ : Nat → Int32} {w_3 : Nat → Int32} {g_10 : Nat → Int32} {mkn_11 : Int32} {mvn_11 : Int32} {mbn_11 : Int32} {mpn_11 : Nat} {mkn_12 : Int32} {mvn_12 : Int32} {mbn_12 : Int32} {mpn_12 : Nat} {mwn_12 : Int32} {mkn_15 : Int32} {mvn_15 : Int32} {mbn_15 : Int32} {mpn_15 : Nat} {mwn_15 : Int32} {frn_15 : Nat → Int32} {cq : Nat} {v_19 : Int32} {mkn_20 : Int32} {mvn_20 : Int32} {mbn_20 : Int32} {mpn_20 : Nat} {mwn_20 : Int32} {frn_20 : Nat → Int32} {mkn_23 : Int32} {mvn_23 : Int32} {mbn_23 : Int32} {mpn_23 : Nat} {mwn_23 : Int32} {frn_23 : Nat → Int32} {mkn_26 : Int32} {mvn_26 : Int32} {mbn_26 : Int32} {mpn_26 : Nat} {mwn_26 : Int32} {frn_26 : Nat → Int32} {w_107 : Nat} {w_108 : Int32} {w_109 : Int32} {w_110 : Int32} {w_112 : Nat → Int32} {W_ : Nat} {w_207 : Nat} {w_208 : Int32} {w_209 : Int32} {w_210 : Int32} {w_212 : Nat → Int32} {K_ : Nat} {mkn_233 : Int32} {mvn_233 : Int32} {mbn_233 : Int32} {mpn_233 : Nat} {mwn_233 : Int32} {frn_233 : Nat → Int32} (hmz : mz ≤ 120) (hu_10 : g_10 = upd w_3 6 1) (Lr : m38 g_10 = r0) (hF_11_0 : mpn_11 ≤ mz) (hF_11_1 : nT ft_ mz 0 = (mkn_11, mvn_11, mbn_11, mpn_11)) (hF_12_0 : mpn_12 ≤ mz) (hF_12_1 : kU ft_ mz 109 (mkn_11, mvn_11, mbn_11, mpn_11) = (mkn_12, mvn_12, mbn_12, mpn_12)) (hF_12_2 : (¬ kG 109 (mkn_11, mvn_11, mbn_11, mpn_11) → mwn_12 = 1)) (f_12_1_0 : kG 109 (mkn_11, mvn_11, mbn_11, mpn_11)) (La : lRa ft_ mz = (((mkn_12, mvn_12, mbn_12, mpn_12), m38 g_10), 0)) (hF_15_0 : mpn_15 ≤ mz) (hF_15_2 : nU ft_ mz 5 15 44 (mkn_12, mvn_12, mbn_12, mpn_12) = (mkn_15, mvn_15, mbn_15, mpn_15)) (hF_15_3 : m38 frn_15 = nR 5 15 0 (mkn_12, mvn_12, mbn_12, mpn_12) (m38 g_10)) (hF_15_4 : (¬ nGG ft_ mz 5 15 44 (mkn_12, mvn_12, mbn_12, mpn_12) → mwn_15 = nE 5 15 (mkn_12, mvn_12, mbn_12, mpn_12))) (f_15_1_0 : nGG ft_ mz 5 15 44 (mkn_12, mvn_12, mbn_12, mpn_12)) (hR_15 : okR frn_15 cq 0 0 0) (Lb : lRb ft_ mz = (((mkn_15, mvn_15, mbn_15, mpn_15), m38 frn_15), 0)) (L0 : m38 frn_15 0 = nI cq) (e_19 : v_19 = ((nI cq) - 1)) (hF_20_0 : mpn_20 ≤ mz) (hF_20_2 : nU ft_ mz 0 v_19 44 (mkn_15, mvn_15, mbn_15, mpn_15) = (mkn_20, mvn_20, mbn_20, mpn_20)) (hF_20_3 : m38 frn_20 = nR 0 v_19 1 (mkn_15, mvn_15, mbn_15, mpn_15) (m38 frn_15)) (hF_20_4 : (¬ nGG ft_ mz 0 v_19 44 (mkn_15, mvn_15, mbn_15, mpn_15) → mwn_20 = nE 0 v_19 (mkn_15, mvn_15, mbn_15, mpn_15))) (f_20_1_0 : nGG ft_ mz 0 v_19 44 (mkn_15, mvn_15, mbn_15, mpn_15)) (hR_20 : okR frn_20 cq 0 0 0) (Lc : lRc ft_ mz = (((mkn_20, mvn_20, mbn_20, mpn_20), m38 frn_20), 0)) (hF_23_0 : mpn_23 ≤ mz) (hF_23_2 : nU ft_ mz 0 4 59 (mkn_20, mvn_20, mbn_20, mpn_20) = (mkn_23, mvn_23, mbn_23, mpn_23)) (hF_23_3 : m38 frn_23 = nR 0 4 2 (mkn_20, mvn_20, mbn_20, mpn_20) (m38 frn_20)) (hF_23_4 : (¬ nGG ft_ mz 0 4 59 (mkn_20, mvn_20, mbn_20, mpn_20) → mwn_23 = nE 0 4 (mkn_20, mvn_20, mbn_20, mpn_20))) (f_23_1_0 : nGG ft_ mz 0 4 59 (mkn_20, mvn_20, mbn_20, mpn_20)) (hR_23 : okR frn_23 cq 0 0 0) (Ld : lRd ft_ mz = (((mkn_23, mvn_23, mbn_23, mpn_23), m38 frn_23), 0)) (hF_26_0 : mpn_26 ≤ mz) (hF_26_2 : wS ft_ mz ((mkn_23, mvn_23, mbn_23, mpn_23), m38 frn_23) = ((mkn_26, mvn_26, mbn_26, mpn_26), m38 frn_26)) (hF_26_3 : (¬ wGG ft_ mz ((mkn_23, mvn_23, mbn_23, mpn_23), m38 frn_23) → mwn_26 = wE ft_ mz ((mkn_23, mvn_23, mbn_23, mpn_23), m38 frn_23))) (f_26_1_0 : wGG ft_ mz ((mkn_23, mvn_23, mbn_23, mpn_23), m38 frn_23)) (hR_26 : okR frn_26 cq (0 + 1) 0 0) (Le : lRe ft_ mz = (((mkn_26, mvn_26, mbn_26, mpn_26), m38 frn_26), 0)) (hnb_w_107 : w_107 ≤ mz) (hW6 : W_ ≤ 6) (hLw : wL ft_ mz (7 - W_) (((w_108, w_109, w_110, w_107), m38 w_112), 0) = wL ft_ mz 6 (lRe ft_ mz)) (c_198 : ¬ (w_108 = 1)) (LW : wL ft_ mz 6 (lRe ft_ mz) = (((w_108, w_109, w_110, w_107), m38 w_112), 0)) (hnb_w_207 : w_207 ≤ mz) (hK6 : K_ ≤ 6) (hLs : sL ft_ mz (7 - K_) (((w_208, w_209, w_210, w_207), m38 w_212), 0) = rR ft_ mz) (L4 : m38 w_212 4 = nI K_) (L5 : (nI K_ = 0 ↔ K_ = 0)) (c_228 : w_208 = 3) (c_232 : K_ = 0) (hF_233_0 : mpn_233 ≤ mz) (hF_233_2 : sS ft_ mz ((w_208, w_209, w_210, w_207), m38 w_212) = ((mkn_233, mvn_233, mbn_233, mpn_233), m38 frn_233)) (hF_233_3 : (¬ sGG ft_ mz ((w_208, w_209, w_210, w_207), m38 w_212) → mwn_233 = sE ft_ mz ((w_208, w_209, w_210, w_207), m38 w_212))) (f_233_1_0 : sGG ft_ mz ((w_208, w_209, w_210, w_207), m38 w_212)) (hR_233 : okR frn_233 cq W_ (K_ + 1) (K_ + 1)) : sL ft_ mz (7 - (K_ + 1)) (((mkn_233, mvn_233, mbn_233, mpn_233), m38 frn_233), 0) = rR ft_ mz := by
  rw [sL_go (by omega) (by exact ⟨rfl, by grind⟩)] at hLs
  rw [show 7 - (K_ + 1) = 7 - K_ - 1 by omega, ← hLs]
  refine congrArg _ ?_
  simp only [sR]
  grind
theorem lf_X8_readLevel_44 {mz : Nat} {ft_ : Nat → Int32} {w_3 : Nat → Int32} {g_10 : Nat → Int32} {mkn_11 : Int32} {mvn_11 : Int32} {mbn_11 : Int32} {mpn_11 : Nat} {mkn_12 : Int32} {mvn_12 : Int32} {mbn_12 : Int32} {mpn_12 : Nat} {mwn_12 : Int32} {mkn_15 : Int32} {mvn_15 : Int32} {mbn_15 : Int32} {mpn_15 : Nat} {mwn_15 : Int32} {frn_15 : Nat → Int32} {cq : Nat} {v_19 : Int32} {mkn_20 : Int32} {mvn_20 : Int32} {mbn_20 : Int32} {mpn_20 : Nat} {mwn_20 : Int32} {frn_20 : Nat → Int32} {mkn_23 : Int32} {mvn_23 : Int32} {mbn_23 : Int32} {mpn_23 : Nat} {mwn_23 : Int32} {frn_23 : Nat → Int32} {mkn_26 : Int32} {mvn_26 : Int32} {mbn_26 : Int32} {mpn_26 : Nat} {mwn_26 : Int32} {frn_26 : Nat → Int32} {w_107 : Nat} {w_108 : Int32} {w_109 : Int32} {w_110 : Int32} {w_112 : Nat → Int32} {W_ : Nat} (hmz : mz ≤ 120) (hu_10 : g_10 = upd w_3 6 1) (Lr : m38 g_10 = r0) (hF_11_0 : mpn_11 ≤ mz) (hF_11_1 : nT ft_ mz 0 = (mkn_11, mvn_11, mbn_11, mpn_11)) (hF_12_0 : mpn_12 ≤ mz) (hF_12_1 : kU ft_ mz 109 (mkn_11, mvn_11, mbn_11, mpn_11) = (mkn_12, mvn_12, mbn_12, mpn_12)) (hF_12_2 : (¬ kG 109 (mkn_11, mvn_11, mbn_11, mpn_11) → mwn_12 = 1)) (f_12_1_0 : kG 109 (mkn_11, mvn_11, mbn_11, mpn_11)) (La : lRa ft_ mz = (((mkn_12, mvn_12, mbn_12, mpn_12), m38 g_10), 0)) (hF_15_0 : mpn_15 ≤ mz) (hF_15_2 : nU ft_ mz 5 15 44 (mkn_12, mvn_12, mbn_12, mpn_12) = (mkn_15, mvn_15, mbn_15, mpn_15)) (hF_15_3 : m38 frn_15 = nR 5 15 0 (mkn_12, mvn_12, mbn_12, mpn_12) (m38 g_10)) (hF_15_4 : (¬ nGG ft_ mz 5 15 44 (mkn_12, mvn_12, mbn_12, mpn_12) → mwn_15 = nE 5 15 (mkn_12, mvn_12, mbn_12, mpn_12))) (f_15_1_0 : nGG ft_ mz 5 15 44 (mkn_12, mvn_12, mbn_12, mpn_12)) (hR_15 : okR frn_15 cq 0 0 0) (Lb : lRb ft_ mz = (((mkn_15, mvn_15, mbn_15, mpn_15), m38 frn_15), 0)) (L0 : m38 frn_15 0 = nI cq) (e_19 : v_19 = ((nI cq) - 1)) (hF_20_0 : mpn_20 ≤ mz) (hF_20_2 : nU ft_ mz 0 v_19 44 (mkn_15, mvn_15, mbn_15, mpn_15) = (mkn_20, mvn_20, mbn_20, mpn_20)) (hF_20_3 : m38 frn_20 = nR 0 v_19 1 (mkn_15, mvn_15, mbn_15, mpn_15) (m38 frn_15)) (hF_20_4 : (¬ nGG ft_ mz 0 v_19 44 (mkn_15, mvn_15, mbn_15, mpn_15) → mwn_20 = nE 0 v_19 (mkn_15, mvn_15, mbn_15, mpn_15))) (f_20_1_0 : nGG ft_ mz 0 v_19 44 (mkn_15, mvn_15, mbn_15, mpn_15)) (hR_20 : okR frn_20 cq 0 0 0) (Lc : lRc ft_ mz = (((mkn_20, mvn_20, mbn_20, mpn_20), m38 frn_20), 0)) (hF_23_0 : mpn_23 ≤ mz) (hF_23_2 : nU ft_ mz 0 4 59 (mkn_20, mvn_20, mbn_20, mpn_20) = (mkn_23, mvn_23, mbn_23, mpn_23)) (hF_23_3 : m38 frn_23 = nR 0 4 2 (mkn_20, mvn_20, mbn_20, mpn_20) (m38 frn_20)) (hF_23_4 : (¬ nGG ft_ mz 0 4 59 (mkn_20, mvn_20, mbn_20, mpn_20) → mwn_23 = nE 0 4 (mkn_20, mvn_20, mbn_20, mpn_20))) (f_23_1_0 : nGG ft_ mz 0 4 59 (mkn_20, mvn_20, mbn_20, mpn_20)) (hR_23 : okR frn_23 cq 0 0 0) (Ld : lRd ft_ mz = (((mkn_23, mvn_23, mbn_23, mpn_23), m38 frn_23), 0)) (hF_26_0 : mpn_26 ≤ mz) (hF_26_2 : wS ft_ mz ((mkn_23, mvn_23, mbn_23, mpn_23), m38 frn_23) = ((mkn_26, mvn_26, mbn_26, mpn_26), m38 frn_26)) (hF_26_3 : (¬ wGG ft_ mz ((mkn_23, mvn_23, mbn_23, mpn_23), m38 frn_23) → mwn_26 = wE ft_ mz ((mkn_23, mvn_23, mbn_23, mpn_23), m38 frn_23))) (f_26_1_0 : wGG ft_ mz ((mkn_23, mvn_23, mbn_23, mpn_23), m38 frn_23)) (hR_26 : okR frn_26 cq (0 + 1) 0 0) (Le : lRe ft_ mz = (((mkn_26, mvn_26, mbn_26, mpn_26), m38 frn_26), 0)) (hnb_w_107 : w_107 ≤ mz) (hW6 : W_ ≤ 6) (hLw : wL ft_ mz (7 - W_) (((w_108, w_109, w_110, w_107), m38 w_112), 0) = wL ft_ mz 6 (lRe ft_ mz)) (c_198 : w_108 = 1) (c_235 : ¬ (w_109 = 119)) : wL ft_ mz 6 (lRe ft_ mz) = (((w_108, w_109, w_110, w_107), m38 w_112), 0) := by
  rw [← hLw]
  exact wL_stop (fun q => by have q2 := q.2; grind)
theorem lf_X8_readLevel_45 {mz : Nat} {ft_ : Nat → Int32} {w_3 : Nat → Int32} {g_10 : Nat → Int32} {mkn_11 : Int32} {mvn_11 : Int32} {mbn_11 : Int32} {mpn_11 : Nat} {mkn_12 : Int32} {mvn_12 : Int32} {mbn_12 : Int32} {mpn_12 : Nat} {mwn_12 : Int32} {mkn_15 : Int32} {mvn_15 : Int32} {mbn_15 : Int32} {mpn_15 : Nat} {mwn_15 : Int32} {frn_15 : Nat → Int32} {cq : Nat} {v_19 : Int32} {mkn_20 : Int32} {mvn_20 : Int32} {mbn_20 : Int32} {mpn_20 : Nat} {mwn_20 : Int32} {frn_20 : Nat → Int32} {mkn_23 : Int32} {mvn_23 : Int32} {mbn_23 : Int32} {mpn_23 : Nat} {mwn_23 : Int32} {frn_23 : Nat → Int32} {mkn_26 : Int32} {mvn_26 : Int32} {mbn_26 : Int32} {mpn_26 : Nat} {mwn_26 : Int32} {frn_26 : Nat → Int32} {w_107 : Nat} {w_108 : Int32} {w_109 : Int32} {w_110 : Int32} {w_112 : Nat → Int32} {W_ : Nat} (hmz : mz ≤ 120) (hu_10 : g_10 = upd w_3 6 1) (Lr : m38 g_10 = r0) (hF_11_0 : mpn_11 ≤ mz) (hF_11_1 : nT ft_ mz 0 = (mkn_11, mvn_11, mbn_11, mpn_11)) (hF_12_0 : mpn_12 ≤ mz) (hF_12_1 : kU ft_ mz 109 (mkn_11, mvn_11, mbn_11, mpn_11) = (mkn_12, mvn_12, mbn_12, mpn_12)) (hF_12_2 : (¬ kG 109 (mkn_11, mvn_11, mbn_11, mpn_11) → mwn_12 = 1)) (f_12_1_0 : kG 109 (mkn_11, mvn_11, mbn_11, mpn_11)) (La : lRa ft_ mz = (((mkn_12, mvn_12, mbn_12, mpn_12), m38 g_10), 0)) (hF_15_0 : mpn_15 ≤ mz) (hF_15_2 : nU ft_ mz 5 15 44 (mkn_12, mvn_12, mbn_12, mpn_12) = (mkn_15, mvn_15, mbn_15, mpn_15)) (hF_15_3 : m38 frn_15 = nR 5 15 0 (mkn_12, mvn_12, mbn_12, mpn_12) (m38 g_10)) (hF_15_4 : (¬ nGG ft_ mz 5 15 44 (mkn_12, mvn_12, mbn_12, mpn_12) → mwn_15 = nE 5 15 (mkn_12, mvn_12, mbn_12, mpn_12))) (f_15_1_0 : nGG ft_ mz 5 15 44 (mkn_12, mvn_12, mbn_12, mpn_12)) (hR_15 : okR frn_15 cq 0 0 0) (Lb : lRb ft_ mz = (((mkn_15, mvn_15, mbn_15, mpn_15), m38 frn_15), 0)) (L0 : m38 frn_15 0 = nI cq) (e_19 : v_19 = ((nI cq) - 1)) (hF_20_0 : mpn_20 ≤ mz) (hF_20_2 : nU ft_ mz 0 v_19 44 (mkn_15, mvn_15, mbn_15, mpn_15) = (mkn_20, mvn_20, mbn_20, mpn_20)) (hF_20_3 : m38 frn_20 = nR 0 v_19 1 (mkn_15, mvn_15, mbn_15, mpn_15) (m38 frn_15)) (hF_20_4 : (¬ nGG ft_ mz 0 v_19 44 (mkn_15, mvn_15, mbn_15, mpn_15) → mwn_20 = nE 0 v_19 (mkn_15, mvn_15, mbn_15, mpn_15))) (f_20_1_0 : nGG ft_ mz 0 v_19 44 (mkn_15, mvn_15, mbn_15, mpn_15)) (hR_20 : okR frn_20 cq 0 0 0) (Lc : lRc ft_ mz = (((mkn_20, mvn_20, mbn_20, mpn_20), m38 frn_20), 0)) (hF_23_0 : mpn_23 ≤ mz) (hF_23_2 : nU ft_ mz 0 4 59 (mkn_20, mvn_20, mbn_20, mpn_20) = (mkn_23, mvn_23, mbn_23, mpn_23)) (hF_23_3 : m38 frn_23 = nR 0 4 2 (mkn_20, mvn_20, mbn_20, mpn_20) (m38 frn_20)) (hF_23_4 : (¬ nGG ft_ mz 0 4 59 (mkn_20, mvn_20, mbn_20, mpn_20) → mwn_23 = nE 0 4 (mkn_20, mvn_20, mbn_20, mpn_20))) (f_23_1_0 : nGG ft_ mz 0 4 59 (mkn_20, mvn_20, mbn_20, mpn_20)) (hR_23 : okR frn_23 cq 0 0 0) (Ld : lRd ft_ mz = (((mkn_23, mvn_23, mbn_23, mpn_23), m38 frn_23), 0)) (hF_26_0 : mpn_26 ≤ mz) (hF_26_2 : wS ft_ mz ((mkn_23, mvn_23, mbn_23, mpn_23), m38 frn_23) = ((mkn_26, mvn_26, mbn_26, mpn_26), m38 frn_26)) (hF_26_3 : (¬ wGG ft_ mz ((mkn_23, mvn_23, mbn_23, mpn_23), m38 frn_23) → mwn_26 = wE ft_ mz ((mkn_23, mvn_23, mbn_23, mpn_23), m38 frn_23))) (f_26_1_0 : wGG ft_ mz ((mkn_23, mvn_23, mbn_23, mpn_23), m38 frn_23)) (hR_26 : okR frn_26 cq (0 + 1) 0 0) (Le : lRe ft_ mz = (((mkn_26, mvn_26, mbn_26, mpn_26), m38 frn_26), 0)) (hnb_w_107 : w_107 ≤ mz) (hW6 : W_ ≤ 6) (hLw : wL ft_ mz (7 - W_) (((w_108, w_109, w_110, w_107), m38 w_112), 0) = wL ft_ mz 6 (lRe ft_ mz)) (c_198 : w_108 = 1) (c_235 : ¬ (w_109 = 119)) (LW : wL ft_ mz 6 (lRe ft_ mz) = (((w_108, w_109, w_110, w_107), m38 w_112), 0)) : sL ft_ mz (7 - 0) (((w_108, w_109, w_110, w_107), m38 w_112), 0) = rR ft_ mz := by
  unfold rR
  rw [LW]
theorem lf_X8_readLevel_46 {mz : Nat} {ft_ : Nat → Int32} {w_3 : Nat → Int32} {g_10 : Nat → Int32} {mkn_11 : Int32} {mvn_11 : Int32} {mbn_11 : Int32} {mpn_11 : Nat} {mkn_12 : Int32} {mvn_12 : Int32} {mbn_12 : Int32} {mpn_12 : Nat} {mwn_12 : Int32} {mkn_15 : Int32} {mvn_15 : Int32} {mbn_15 : Int32} {mpn_15 : Nat} {mwn_15 : Int32} {frn_15 : Nat → Int32} {cq : Nat} {v_19 : Int32} {mkn_20 : Int32} {mvn_20 : Int32} {mbn_20 : Int32} {mpn_20 : Nat} {mwn_20 : Int32} {frn_20 : Nat → Int32} {mkn_23 : Int32} {mvn_23 : Int32} {mbn_23 : Int32} {mpn_23 : Nat} {mwn_23 : Int32} {frn_23 : Nat → Int32} {mkn_26 : Int32} {mvn_26 : Int32} {mbn_26 : Int32} {mpn_26 : Nat} {mwn_26 : Int32} {frn_26 : Nat → Int32} {w_107 : Nat} {w_108 : Int32} {w_109 : Int32} {w_110 : Int32} {w_112 : Nat → Int32} {W_ : Nat} {w_244 : Nat} {w_245 : Int32} {w_246 : Int32} {w_247 : Int32} {w_249 : Nat → Int32} {K_ : Nat} {mkn_266 : Int32} {mvn_266 : Int32} {mbn_266 : Int32} {mpn_266 : Nat} {mwn_266 : Int32} {frn_266 : Nat → Int32} (hmz : mz ≤ 120) (hu_10 : g_10 = upd w_3 6 1) (Lr : m38 g_10 = r0) (hF_11_0 : mpn_11 ≤ mz) (hF_11_1 : nT ft_ mz 0 = (mkn_11, mvn_11, mbn_11, mpn_11)) (hF_12_0 : mpn_12 ≤ mz) (hF_12_1 : kU ft_ mz 109 (mkn_11, mvn_11, mbn_11, mpn_11) = (mkn_12, mvn_12, mbn_12, mpn_12)) (hF_12_2 : (¬ kG 109 (mkn_11, mvn_11, mbn_11, mpn_11) → mwn_12 = 1)) (f_12_1_0 : kG 109 (mkn_11, mvn_11, mbn_11, mpn_11)) (La : lRa ft_ mz = (((mkn_12, mvn_12, mbn_12, mpn_12), m38 g_10), 0)) (hF_15_0 : mpn_15 ≤ mz) (hF_15_2 : nU ft_ mz 5 15 44 (mkn_12, mvn_12, mbn_12, mpn_12) = (mkn_15, mvn_15, mbn_15, mpn_15)) (hF_15_3 : m38 frn_15 = nR 5 15 0 (mkn_12, mvn_12, mbn_12, mpn_12) (m38 g_10)) (hF_15_4 : (¬ nGG ft_ mz 5 15 44 (mkn_12, mvn_12, mbn_12, mpn_12) → mwn_15 = nE 5 15 (mkn_12, mvn_12, mbn_12, mpn_12))) (f_15_1_0 : nGG ft_ mz 5 15 44 (mkn_12, mvn_12, mbn_12, mpn_12)) (hR_15 : okR frn_15 cq 0 0 0) (Lb : lRb ft_ mz = (((mkn_15, mvn_15, mbn_15, mpn_15), m38 frn_15), 0)) (L0 : m38 frn_15 0 = nI cq) (e_19 : v_19 = ((nI cq) - 1)) (hF_20_0 : mpn_20 ≤ mz) (hF_20_2 : nU ft_ mz 0 v_19 44 (mkn_15, mvn_15, mbn_15, mpn_15) = (mkn_20, mvn_20, mbn_20, mpn_20)) (hF_20_3 : m38 frn_20 = nR 0 v_19 1 (mkn_15, mvn_15, mbn_15, mpn_15) (m38 frn_15)) (hF_20_4 : (¬ nGG ft_ mz 0 v_19 44 (mkn_15, mvn_15, mbn_15, mpn_15) → mwn_20 = nE 0 v_19 (mkn_15, mvn_15, mbn_15, mpn_15))) (f_20_1_0 : nGG ft_ mz 0 v_19 44 (mkn_15, mvn_15, mbn_15, mpn_15)) (hR_20 : okR frn_20 cq 0 0 0) (Lc : lRc ft_ mz = (((mkn_20, mvn_20, mbn_20, mpn_20), m38 frn_20), 0)) (hF_23_0 : mpn_23 ≤ mz) (hF_23_2 : nU ft_ mz 0 4 59 (mkn_20, mvn_20, mbn_20, mpn_20) = (mkn_23, mvn_23, mbn_23, mpn_23)) (hF_23_3 : m38 frn_23 = nR 0 4 2 (mkn_20, mvn_20, mbn_20, mpn_20) (m38 frn_20)) (hF_23_4 : (¬ nGG ft_ mz 0 4 59 (mkn_20, mvn_20, mbn_20, mpn_20) → mwn_23 = nE 0 4 (mkn_20, mvn_20, mbn_20, mpn_20))) (f_23_1_0 : nGG ft_ mz 0 4 59 (mkn_20, mvn_20, mbn_20, mpn_20)) (hR_23 : okR frn_23 cq 0 0 0) (Ld : lRd ft_ mz = (((mkn_23, mvn_23, mbn_23, mpn_23), m38 frn_23), 0)) (hF_26_0 : mpn_26 ≤ mz) (hF_26_2 : wS ft_ mz ((mkn_23, mvn_23, mbn_23, mpn_23), m38 frn_23) = ((mkn_26, mvn_26, mbn_26, mpn_26), m38 frn_26)) (hF_26_3 : (¬ wGG ft_ mz ((mkn_23, mvn_23, mbn_23, mpn_23), m38 frn_23) → mwn_26 = wE ft_ mz ((mkn_23, mvn_23, mbn_23, mpn_23), m38 frn_23))) (f_26_1_0 : wGG ft_ mz ((mkn_23, mvn_23, mbn_23, mpn_23), m38 frn_23)) (hR_26 : okR frn_26 cq (0 + 1) 0 0) (Le : lRe ft_ mz = (((mkn_26, mvn_26, mbn_26, mpn_26), m38 frn_26), 0)) (hnb_w_107 : w_107 ≤ mz) (hW6 : W_ ≤ 6) (hLw : wL ft_ mz (7 - W_) (((w_108, w_109, w_110, w_107), m38 w_112), 0) = wL ft_ mz 6 (lRe ft_ mz)) (c_198 : w_108 = 1) (c_235 : ¬ (w_109 = 119)) (LW : wL ft_ mz 6 (lRe ft_ mz) = (((w_108, w_109, w_110, w_107), m38 w_112), 0)) (hnb_w_244 : w_244 ≤ mz) (hK6 : K_ ≤ 6) (hLs : sL ft_ mz (7 - K_) (((w_245, w_246, w_247, w_244), m38 w_249), 0) = rR ft_ mz) (L4 : m38 w_249 4 = nI K_) (L5 : (nI K_ = 0 ↔ K_ = 0)) (c_265 : ¬ (w_245 = 3)) (hF_266_0 : mpn_266 ≤ mz) (hF_266_2 : sS ft_ mz ((w_245, w_246, w_247, w_244), m38 w_249) = ((mkn_266, mvn_266, mbn_266, mpn_266), m38 frn_266)) (hF_266_3 : (¬ sGG ft_ mz ((w_245, w_246, w_247, w_244), m38 w_249) → mwn_266 = sE ft_ mz ((w_245, w_246, w_247, w_244), m38 w_249))) (f_266_0_0 : ¬ sGG ft_ mz ((w_245, w_246, w_247, w_244), m38 w_249)) : rR ft_ mz = (((mkn_266, mvn_266, mbn_266, mpn_266), m38 frn_266), sE ft_ mz ((w_245, w_246, w_247, w_244), m38 w_249)) := by
  have h8 : sR ft_ mz ((w_245, w_246, w_247, w_244), m38 w_249) = (((mkn_266, mvn_266, mbn_266, mpn_266), m38 frn_266), sE ft_ mz ((w_245, w_246, w_247, w_244), m38 w_249)) := (by simp only [sR]; grind)
  rw [← hLs, sL_go (by omega) (by exact ⟨rfl, by grind⟩)]
  show sL ft_ mz (7 - K_ - 1) (sR ft_ mz ((w_245, w_246, w_247, w_244), m38 w_249)) = _
  rw [h8, sL_stop (fun q => sE_nz _ _ _ q.1)]
theorem lf_X8_readLevel_47 {mz : Nat} {ft_ : Nat → Int32} {w_3 : Nat → Int32} {g_10 : Nat → Int32} {mkn_11 : Int32} {mvn_11 : Int32} {mbn_11 : Int32} {mpn_11 : Nat} {mkn_12 : Int32} {mvn_12 : Int32} {mbn_12 : Int32} {mpn_12 : Nat} {mwn_12 : Int32} {mkn_15 : Int32} {mvn_15 : Int32} {mbn_15 : Int32} {mpn_15 : Nat} {mwn_15 : Int32} {frn_15 : Nat → Int32} {cq : Nat} {v_19 : Int32} {mkn_20 : Int32} {mvn_20 : Int32} {mbn_20 : Int32} {mpn_20 : Nat} {mwn_20 : Int32} {frn_20 : Nat → Int32} {mkn_23 : Int32} {mvn_23 : Int32} {mbn_23 : Int32} {mpn_23 : Nat} {mwn_23 : Int32} {frn_23 : Nat → Int32} {mkn_26 : Int32} {mvn_26 : Int32} {mbn_26 : Int32} {mpn_26 : Nat} {mwn_26 : Int32} {frn_26 : Nat → Int32} {w_107 : Nat} {w_108 : Int32} {w_109 : Int32} {w_110 : Int32} {w_112 : Nat → Int32} {W_ : Nat} {w_244 : Nat} {w_245 : Int32} {w_246 : Int32} {w_247 : Int32} {w_249 : Nat → Int32} {K_ : Nat} {mkn_266 : Int32} {mvn_266 : Int32} {mbn_266 : Int32} {mpn_266 : Nat} {mwn_266 : Int32} {frn_266 : Nat → Int32} (hmz : mz ≤ 120) (hu_10 : g_10 = upd w_3 6 1) (Lr : m38 g_10 = r0) (hF_11_0 : mpn_11 ≤ mz) (hF_11_1 : nT ft_ mz 0 = (mkn_11, mvn_11, mbn_11, mpn_11)) (hF_12_0 : mpn_12 ≤ mz) (hF_12_1 : kU ft_ mz 109 (mkn_11, mvn_11, mbn_11, mpn_11) = (mkn_12, mvn_12, mbn_12, mpn_12)) (hF_12_2 : (¬ kG 109 (mkn_11, mvn_11, mbn_11, mpn_11) → mwn_12 = 1)) (f_12_1_0 : kG 109 (mkn_11, mvn_11, mbn_11, mpn_11)) (La : lRa ft_ mz = (((mkn_12, mvn_12, mbn_12, mpn_12), m38 g_10), 0)) (hF_15_0 : mpn_15 ≤ mz) (hF_15_2 : nU ft_ mz 5 15 44 (mkn_12, mvn_12, mbn_12, mpn_12) = (mkn_15, mvn_15, mbn_15, mpn_15)) (hF_15_3 : m38 frn_15 = nR 5 15 0 (mkn_12, mvn_12, mbn_12, mpn_12) (m38 g_10)) (hF_15_4 : (¬ nGG ft_ mz 5 15 44 (mkn_12, mvn_12, mbn_12, mpn_12) → mwn_15 = nE 5 15 (mkn_12, mvn_12, mbn_12, mpn_12))) (f_15_1_0 : nGG ft_ mz 5 15 44 (mkn_12, mvn_12, mbn_12, mpn_12)) (hR_15 : okR frn_15 cq 0 0 0) (Lb : lRb ft_ mz = (((mkn_15, mvn_15, mbn_15, mpn_15), m38 frn_15), 0)) (L0 : m38 frn_15 0 = nI cq) (e_19 : v_19 = ((nI cq) - 1)) (hF_20_0 : mpn_20 ≤ mz) (hF_20_2 : nU ft_ mz 0 v_19 44 (mkn_15, mvn_15, mbn_15, mpn_15) = (mkn_20, mvn_20, mbn_20, mpn_20)) (hF_20_3 : m38 frn_20 = nR 0 v_19 1 (mkn_15, mvn_15, mbn_15, mpn_15) (m38 frn_15)) (hF_20_4 : (¬ nGG ft_ mz 0 v_19 44 (mkn_15, mvn_15, mbn_15, mpn_15) → mwn_20 = nE 0 v_19 (mkn_15, mvn_15, mbn_15, mpn_15))) (f_20_1_0 : nGG ft_ mz 0 v_19 44 (mkn_15, mvn_15, mbn_15, mpn_15)) (hR_20 : okR frn_20 cq 0 0 0) (Lc : lRc ft_ mz = (((mkn_20, mvn_20, mbn_20, mpn_20), m38 frn_20), 0)) (hF_23_0 : mpn_23 ≤ mz) (hF_23_2 : nU ft_ mz 0 4 59 (mkn_20, mvn_20, mbn_20, mpn_20) = (mkn_23, mvn_23, mbn_23, mpn_23)) (hF_23_3 : m38 frn_23 = nR 0 4 2 (mkn_20, mvn_20, mbn_20, mpn_20) (m38 frn_20)) (hF_23_4 : (¬ nGG ft_ mz 0 4 59 (mkn_20, mvn_20, mbn_20, mpn_20) → mwn_23 = nE 0 4 (mkn_20, mvn_20, mbn_20, mpn_20))) (f_23_1_0 : nGG ft_ mz 0 4 59 (mkn_20, mvn_20, mbn_20, mpn_20)) (hR_23 : okR frn_23 cq 0 0 0) (Ld : lRd ft_ mz = (((mkn_23, mvn_23, mbn_23, mpn_23), m38 frn_23), 0)) (hF_26_0 : mpn_26 ≤ mz) (hF_26_2 : wS ft_ mz ((mkn_23, mvn_23, mbn_23, mpn_23), m38 frn_23) = ((mkn_26, mvn_26, mbn_26, mpn_26), m38 frn_26)) (hF_26_3 : (¬ wGG ft_ mz ((mkn_23, mvn_23, mbn_23, mpn_23), m38 frn_23) → mwn_26 = wE ft_ mz ((mkn_23, mvn_23, mbn_23, mpn_23), m38 frn_23))) (f_26_1_0 : wGG ft_ mz ((mkn_23, mvn_23, mbn_23, mpn_23), m38 frn_23)) (hR_26 : okR frn_26 cq (0 + 1) 0 0) (Le : lRe ft_ mz = (((mkn_26, mvn_26, mbn_26, mpn_26), m38 frn_26), 0)) (hnb_w_107 : w_107 ≤ mz) (hW6 : W_ ≤ 6) (hLw : wL ft_ mz (7 - W_) (((w_108, w_109, w_110, w_107), m38 w_112), 0) = wL ft_ mz 6 (lRe ft_ mz)) (c_198 : w_108 = 1) (c_235 : ¬ (w_109 = 119)) (LW : wL ft_ mz 6 (lRe ft_ mz) = (((w_108, w_109, w_110, w_107), m38 w_112), 0)) (hnb_w_244 : w_244 ≤ mz) (hK6 : K_ ≤ 6) (hLs : sL ft_ mz (7 - K_) (((w_245, w_246, w_247, w_244), m38 w_249), 0) = rR ft_ mz) (L4 : m38 w_249 4 = nI K_) (L5 : (nI K_ = 0 ↔ K_ = 0)) (c_265 : ¬ (w_245 = 3)) (hF_266_0 : mpn_266 ≤ mz) (hF_266_2 : sS ft_ mz ((w_245, w_246, w_247, w_244), m38 w_249) = ((mkn_266, mvn_266, mbn_266, mpn_266), m38 frn_266)) (hF_266_3 : (¬ sGG ft_ mz ((w_245, w_246, w_247, w_244), m38 w_249) → mwn_266 = sE ft_ mz ((w_245, w_246, w_247, w_244), m38 w_249))) (f_266_0_0 : ¬ sGG ft_ mz ((w_245, w_246, w_247, w_244), m38 w_249)) (Lx : rR ft_ mz = (((mkn_266, mvn_266, mbn_266, mpn_266), m38 frn_266), sE ft_ mz ((w_245, w_246, w_247, w_244), m38 w_249))) (Ln : ¬ sE ft_ mz ((w_245, w_246, w_247, w_244), m38 w_249) = 0) : (rR ft_ mz).1 = ((mkn_266, mvn_266, mbn_266, mpn_266), m38 frn_266) := by
  first
  | (rw [Lx]; exact Ln)
  | (rw [Lx]; done)
  | (intro q_; rw [Lx]; grind)
  | grind
theorem lf_X8_readLevel_48 {mz : Nat} {ft_ : Nat → Int32} {w_3 : Nat → Int32} {g_10 : Nat → Int32} {mkn_11 : Int32} {mvn_11 : Int32} {mbn_11 : Int32} {mpn_11 : Nat} {mkn_12 : Int32} {mvn_12 : Int32} {mbn_12 : Int32} {mpn_12 : Nat} {mwn_12 : Int32} {mkn_15 : Int32} {mvn_15 : Int32} {mbn_15 : Int32} {mpn_15 : Nat} {mwn_15 : Int32} {frn_15 : Nat → Int32} {cq : Nat} {v_19 : Int32} {mkn_20 : Int32} {mvn_20 : Int32} {mbn_20 : Int32} {mpn_20 : Nat} {mwn_20 : Int32} {frn_20 : Nat → Int32} {mkn_23 : Int32} {mvn_23 : Int32} {mbn_23 : Int32} {mpn_23 : Nat} {mwn_23 : Int32} {frn_23 : Nat → Int32} {mkn_26 : Int32} {mvn_26 : Int32} {mbn_26 : Int32} {mpn_26 : Nat} {mwn_26 : Int32} {frn_26 : Nat → Int32} {w_107 : Nat} {w_108 : Int32} {w_109 : Int32} {w_110 : Int32} {w_112 : Nat → Int32} {W_ : Nat} {w_244 : Nat} {w_245 : Int32} {w_246 : Int32} {w_247 : Int32} {w_249 : Nat → Int32} {K_ : Nat} {mkn_266 : Int32} {mvn_266 : Int32} {mbn_266 : Int32} {mpn_266 : Nat} {mwn_266 : Int32} {frn_266 : Nat → Int32} (hmz : mz ≤ 120) (hu_10 : g_10 = upd w_3 6 1) (Lr : m38 g_10 = r0) (hF_11_0 : mpn_11 ≤ mz) (hF_11_1 : nT ft_ mz 0 = (mkn_11, mvn_11, mbn_11, mpn_11)) (hF_12_0 : mpn_12 ≤ mz) (hF_12_1 : kU ft_ mz 109 (mkn_11, mvn_11, mbn_11, mpn_11) = (mkn_12, mvn_12, mbn_12, mpn_12)) (hF_12_2 : (¬ kG 109 (mkn_11, mvn_11, mbn_11, mpn_11) → mwn_12 = 1)) (f_12_1_0 : kG 109 (mkn_11, mvn_11, mbn_11, mpn_11)) (La : lRa ft_ mz = (((mkn_12, mvn_12, mbn_12, mpn_12), m38 g_10), 0)) (hF_15_0 : mpn_15 ≤ mz) (hF_15_2 : nU ft_ mz 5 15 44 (mkn_12, mvn_12, mbn_12, mpn_12) = (mkn_15, mvn_15, mbn_15, mpn_15)) (hF_15_3 : m38 frn_15 = nR 5 15 0 (mkn_12, mvn_12, mbn_12, mpn_12) (m38 g_10)) (hF_15_4 : (¬ nGG ft_ mz 5 15 44 (mkn_12, mvn_12, mbn_12, mpn_12) → mwn_15 = nE 5 15 (mkn_12, mvn_12, mbn_12, mpn_12))) (f_15_1_0 : nGG ft_ mz 5 15 44 (mkn_12, mvn_12, mbn_12, mpn_12)) (hR_15 : okR frn_15 cq 0 0 0) (Lb : lRb ft_ mz = (((mkn_15, mvn_15, mbn_15, mpn_15), m38 frn_15), 0)) (L0 : m38 frn_15 0 = nI cq) (e_19 : v_19 = ((nI cq) - 1)) (hF_20_0 : mpn_20 ≤ mz) (hF_20_2 : nU ft_ mz 0 v_19 44 (mkn_15, mvn_15, mbn_15, mpn_15) = (mkn_20, mvn_20, mbn_20, mpn_20)) (hF_20_3 : m38 frn_20 = nR 0 v_19 1 (mkn_15, mvn_15, mbn_15, mpn_15) (m38 frn_15)) (hF_20_4 : (¬ nGG ft_ mz 0 v_19 44 (mkn_15, mvn_15, mbn_15, mpn_15) → mwn_20 = nE 0 v_19 (mkn_15, mvn_15, mbn_15, mpn_15))) (f_20_1_0 : nGG ft_ mz 0 v_19 44 (mkn_15, mvn_15, mbn_15, mpn_15)) (hR_20 : okR frn_20 cq 0 0 0) (Lc : lRc ft_ mz = (((mkn_20, mvn_20, mbn_20, mpn_20), m38 frn_20), 0)) (hF_23_0 : mpn_23 ≤ mz) (hF_23_2 : nU ft_ mz 0 4 59 (mkn_20, mvn_20, mbn_20, mpn_20) = (mkn_23, mvn_23, mbn_23, mpn_23)) (hF_23_3 : m38 frn_23 = nR 0 4 2 (mkn_20, mvn_20, mbn_20, mpn_20) (m38 frn_20)) (hF_23_4 : (¬ nGG ft_ mz 0 4 59 (mkn_20, mvn_20, mbn_20, mpn_20) → mwn_23 = nE 0 4 (mkn_20, mvn_20, mbn_20, mpn_20))) (f_23_1_0 : nGG ft_ mz 0 4 59 (mkn_20, mvn_20, mbn_20, mpn_20)) (hR_23 : okR frn_23 cq 0 0 0) (Ld : lRd ft_ mz = (((mkn_23, mvn_23, mbn_23, mpn_23), m38 frn_23), 0)) (hF_26_0 : mpn_26 ≤ mz) (hF_26_2 : wS ft_ mz ((mkn_23, mvn_23, mbn_23, mpn_23), m38 frn_23) = ((mkn_26, mvn_26, mbn_26, mpn_26), m38 frn_26)) (hF_26_3 : (¬ wGG ft_ mz ((mkn_23, mvn_23, mbn_23, mpn_23), m38 frn_23) → mwn_26 = wE ft_ mz ((mkn_23, mvn_23, mbn_23, mpn_23), m38 frn_23))) (f_26_1_0 : wGG ft_ mz ((mkn_23, mvn_23, mbn_23, mpn_23), m38 frn_23)) (hR_26 : okR frn_26 cq (0 + 1) 0 0) (Le : lRe ft_ mz = (((mkn_26, mvn_26, mbn_26, mpn_26), m38 frn_26), 0)) (hnb_w_107 : w_107 ≤ mz) (hW6 : W_ ≤ 6) (hLw : wL ft_ mz (7 - W_) (((w_108, w_109, w_110, w_107), m38 w_112), 0) = wL ft_ mz 6 (lRe ft_ mz)) (c_198 : w_108 = 1) (c_235 : ¬ (w_109 = 119)) (LW : wL ft_ mz 6 (lRe ft_ mz) = (((w_108, w_109, w_110, w_107), m38 w_112), 0)) (hnb_w_244 : w_244 ≤ mz) (hK6 : K_ ≤ 6) (hLs : sL ft_ mz (7 - K_) (((w_245, w_246, w_247, w_244), m38 w_249), 0) = rR ft_ mz) (L4 : m38 w_249 4 = nI K_) (L5 : (nI K_ = 0 ↔ K_ = 0)) (c_265 : ¬ (w_245 = 3)) (hF_266_0 : mpn_266 ≤ mz) (hF_266_2 : sS ft_ mz ((w_245, w_246, w_247, w_244), m38 w_249) = ((mkn_266, mvn_266, mbn_266, mpn_266), m38 frn_266)) (hF_266_3 : (¬ sGG ft_ mz ((w_245, w_246, w_247, w_244), m38 w_249) → mwn_266 = sE ft_ mz ((w_245, w_246, w_247, w_244), m38 w_249))) (f_266_0_0 : ¬ sGG ft_ mz ((w_245, w_246, w_247, w_244), m38 w_249)) (Lx : rR ft_ mz = (((mkn_266, mvn_266, mbn_266, mpn_266), m38 frn_266), sE ft_ mz ((w_245, w_246, w_247, w_244), m38 w_249))) (Ln : ¬ sE ft_ mz ((w_245, w_246, w_247, w_244), m38 w_249) = 0) : (¬ (rR ft_ mz).2 = 0 → mwn_266 = (rR ft_ mz).2) := by
  first
  | (rw [Lx]; exact Ln)
  | (rw [Lx]; done)
  | (intro q_; rw [Lx]; grind)
  | grind
theorem lf_X8_readLevel_49 {mz : Nat} {ft_ : Nat → Int32} {w_3 : Nat → Int32} {g_10 : Nat → Int32} {mkn_11 : Int32} {mvn_11 : Int32} {mbn_11 : Int32} {mpn_11 : Nat} {mkn_12 : Int32} {mvn_12 : Int32} {mbn_12 : Int32} {mpn_12 : Nat} {mwn_12 : Int32} {mkn_15 : Int32} {mvn_15 : Int32} {mbn_15 : Int32} {mpn_15 : Nat} {mwn_15 : Int32} {frn_15 : Nat → Int32} {cq : Nat} {v_19 : Int32} {mkn_20 : Int32} {mvn_20 : Int32} {mbn_20 : Int32} {mpn_20 : Nat} {mwn_20 : Int32} {frn_20 : Nat → Int32} {mkn_23 : Int32} {mvn_23 : Int32} {mbn_23 : Int32} {mpn_23 : Nat} {mwn_23 : Int32} {frn_23 : Nat → Int32} {mkn_26 : Int32} {mvn_26 : Int32} {mbn_26 : Int32} {mpn_26 : Nat} {mwn_26 : Int32} {frn_26 : Nat → Int32} {w_107 : Nat} {w_108 : Int32} {w_109 : Int32} {w_110 : Int32} {w_112 : Nat → Int32} {W_ : Nat} {w_244 : Nat} {w_245 : Int32} {w_246 : Int32} {w_247 : Int32} {w_249 : Nat → Int32} {K_ : Nat} {mkn_266 : Int32} {mvn_266 : Int32} {mbn_266 : Int32} {mpn_266 : Nat} {mwn_266 : Int32} {frn_266 : Nat → Int32} (hmz : mz ≤ 120) (hu_10 : g_10 = upd w_3 6 1) (Lr : m38 g_10 = r0) (hF_11_0 : mpn_11 ≤ mz) (hF_11_1 : nT ft_ mz 0 = (mkn_11, mvn_11, mbn_11, mpn_11)) (hF_12_0 : mpn_12 ≤ mz) (hF_12_1 : kU ft_ mz 109 (mkn_11, mvn_11, mbn_11, mpn_11) = (mkn_12, mvn_12, mbn_12, mpn_12)) (hF_12_2 : (¬ kG 109 (mkn_11, mvn_11, mbn_11, mpn_11) → mwn_12 = 1)) (f_12_1_0 : kG 109 (mkn_11, mvn_11, mbn_11, mpn_11)) (La : lRa ft_ mz = (((mkn_12, mvn_12, mbn_12, mpn_12), m38 g_10), 0)) (hF_15_0 : mpn_15 ≤ mz) (hF_15_2 : nU ft_ mz 5 15 44 (mkn_12, mvn_12, mbn_12, mpn_12) = (mkn_15, mvn_15, mbn_15, mpn_15)) (hF_15_3 : m38 frn_15 = nR 5 15 0 (mkn_12, mvn_12, mbn_12, mpn_12) (m38 g_10)) (hF_15_4 : (¬ nGG ft_ mz 5 15 44 (mkn_12, mvn_12, mbn_12, mpn_12) → mwn_15 = nE 5 15 (mkn_12, mvn_12, mbn_12, mpn_12))) (f_15_1_0 : nGG ft_ mz 5 15 44 (mkn_12, mvn_12, mbn_12, mpn_12)) (hR_15 : okR frn_15 cq 0 0 0) (Lb : lRb ft_ mz = (((mkn_15, mvn_15, mbn_15, mpn_15), m38 frn_15), 0)) (L0 : m38 frn_15 0 = nI cq) (e_19 : v_19 = ((nI cq) - 1)) (hF_20_0 : mpn_20 ≤ mz) (hF_20_2 : nU ft_ mz 0 v_19 44 (mkn_15, mvn_15, mbn_15, mpn_15) = (mkn_20, mvn_20, mbn_20, mpn_20)) (hF_20_3 : m38 frn_20 = nR 0 v_19 1 (mkn_15, mvn_15, mbn_15, mpn_15) (m38 frn_15)) (hF_20_4 : (¬ nGG ft_ mz 0 v_19 44 (mkn_15, mvn_15, mbn_15, mpn_15) → mwn_20 = nE 0 v_19 (mkn_15, mvn_15, mbn_15, mpn_15))) (f_20_1_0 : nGG ft_ mz 0 v_19 44 (mkn_15, mvn_15, mbn_15, mpn_15)) (hR_20 : okR frn_20 cq 0 0 0) (Lc : lRc ft_ mz = (((mkn_20, mvn_20, mbn_20, mpn_20), m38 frn_20), 0)) (hF_23_0 : mpn_23 ≤ mz) (hF_23_2 : nU ft_ mz 0 4 59 (mkn_20, mvn_20, mbn_20, mpn_20) = (mkn_23, mvn_23, mbn_23, mpn_23)) (hF_23_3 : m38 frn_23 = nR 0 4 2 (mkn_20, mvn_20, mbn_20, mpn_20) (m38 frn_20)) (hF_23_4 : (¬ nGG ft_ mz 0 4 59 (mkn_20, mvn_20, mbn_20, mpn_20) → mwn_23 = nE 0 4 (mkn_20, mvn_20, mbn_20, mpn_20))) (f_23_1_0 : nGG ft_ mz 0 4 59 (mkn_20, mvn_20, mbn_20, mpn_20)) (hR_23 : okR frn_23 cq 0 0 0) (Ld : lRd ft_ mz = (((mkn_23, mvn_23, mbn_23, mpn_23), m38 frn_23), 0)) (hF_26_0 : mpn_26 ≤ mz) (hF_26_2 : wS ft_ mz ((mkn_23, mvn_23, mbn_23, mpn_23), m38 frn_23) = ((mkn_26, mvn_26, mbn_26, mpn_26), m38 frn_26)) (hF_26_3 : (¬ wGG ft_ mz ((mkn_23, mvn_23, mbn_23, mpn_23), m38 frn_23) → mwn_26 = wE ft_ mz ((mkn_23, mvn_23, mbn_23, mpn_23), m38 frn_23))) (f_26_1_0 : wGG ft_ mz ((mkn_23, mvn_23, mbn_23, mpn_23), m38 frn_23)) (hR_26 : okR frn_26 cq (0 + 1) 0 0) (Le : lRe ft_ mz = (((mkn_26, mvn_26, mbn_26, mpn_26), m38 frn_26), 0)) (hnb_w_107 : w_107 ≤ mz) (hW6 : W_ ≤ 6) (hLw : wL ft_ mz (7 - W_) (((w_108, w_109, w_110, w_107), m38 w_112), 0) = wL ft_ mz 6 (lRe ft_ mz)) (c_198 : w_108 = 1) (c_235 : ¬ (w_109 = 119)) (LW : wL ft_ mz 6 (lRe ft_ mz) = (((w_108, w_109, w_110, w_107), m38 w_112), 0)) (hnb_w_244 : w_244 ≤ mz) (hK6 : K_ ≤ 6) (hLs : sL ft_ mz (7 - K_) (((w_245, w_246, w_247, w_244), m38 w_249), 0) = rR ft_ mz) (L4 : m38 w_249 4 = nI K_) (L5 : (nI K_ = 0 ↔ K_ = 0)) (c_265 : ¬ (w_245 = 3)) (hF_266_0 : mpn_266 ≤ mz) (hF_266_2 : sS ft_ mz ((w_245, w_246, w_247, w_244), m38 w_249) = ((mkn_266, mvn_266, mbn_266, mpn_266), m38 frn_266)) (hF_266_3 : (¬ sGG ft_ mz ((w_245, w_246, w_247, w_244), m38 w_249) → mwn_266 = sE ft_ mz ((w_245, w_246, w_247, w_244), m38 w_249))) (f_266_0_0 : ¬ sGG ft_ mz ((w_245, w_246, w_247, w_244), m38 w_249)) (Lx : rR ft_ mz = (((mkn_266, mvn_266, mbn_266, mpn_266), m38 frn_266), sE ft_ mz ((w_245, w_246, w_247, w_244), m38 w_249))) (Ln : ¬ sE ft_ mz ((w_245, w_246, w_247, w_244), m38 w_249) = 0) : ¬ (rR ft_ mz).2 = 0 := by
  first
  | (rw [Lx]; exact Ln)
  | (rw [Lx]; done)
  | (intro q_; rw [Lx]; grind)
  | grind
theorem lf_X8_readLevel_50 {mz : Nat} {ft_ : Nat → Int32} {w_3 : Nat → Int32} {g_10 : Nat → Int32} {mkn_11 : Int32} {mvn_11 : Int32} {mbn_11 : Int32} {mpn_11 : Nat} {mkn_12 : Int32} {mvn_12 : Int32} {mbn_12 : Int32} {mpn_12 : Nat} {mwn_12 : Int32} {mkn_15 : Int32} {mvn_15 : Int32} {mbn_15 : Int32} {mpn_15 : Nat} {mwn_15 : Int32} {frn_15 : Nat → Int32} {cq : Nat} {v_19 : Int32} {mkn_20 : Int32} {mvn_20 : Int32} {mbn_20 : Int32} {mpn_20 : Nat} {mwn_20 : Int32} {frn_20 : Nat → Int32} {mkn_23 : Int32} {mvn_23 : Int32} {mbn_23 : Int32} {mpn_23 : Nat} {mwn_23 : Int32} {frn_23 : Nat → Int32} {mkn_26 : Int32} {mvn_26 : Int32} {mbn_26 : Int32} {mpn_26 : Nat} {mwn_26 : Int32} {frn_26 : Nat → Int32} {w_107 : Nat} {w_108 : Int32} {w_109 : Int32} {w_110 : Int32} {w_112 : Nat → Int32} {W_ : Nat} {w_244 : Nat} {w_245 : Int32} {w_246 : Int32} {w_247 : Int32} {w_249 : Nat → Int32} {K_ : Nat} {mkn_266 : Int32} {mvn_266 : Int32} {mbn_266 : Int32} {mpn_266 : Nat} {mwn_266 : Int32} {frn_266 : Nat → Int32} (hmz : mz ≤ 120) (hu_10 : g_10 = upd w_3 6 1) (Lr : m38 g_10 = r0) (hF_11_0 : mpn_11 ≤ mz) (hF_11_1 : nT ft_ mz 0 = (mkn_11, mvn_11, mbn_11, mpn_11)) (hF_12_0 : mpn_12 ≤ mz) (hF_12_1 : kU ft_ mz 109 (mkn_11, mvn_11, mbn_11, mpn_11) = (mkn_12, mvn_12, mbn_12, mpn_12)) (hF_12_2 : (¬ kG 109 (mkn_11, mvn_11, mbn_11, mpn_11) → mwn_12 = 1)) (f_12_1_0 : kG 109 (mkn_11, mvn_11, mbn_11, mpn_11)) (La : lRa ft_ mz = (((mkn_12, mvn_12, mbn_12, mpn_12), m38 g_10), 0)) (hF_15_0 : mpn_15 ≤ mz) (hF_15_2 : nU ft_ mz 5 15 44 (mkn_12, mvn_12, mbn_12, mpn_12) = (mkn_15, mvn_15, mbn_15, mpn_15)) (hF_15_3 : m38 frn_15 = nR 5 15 0 (mkn_12, mvn_12, mbn_12, mpn_12) (m38 g_10)) (hF_15_4 : (¬ nGG ft_ mz 5 15 44 (mkn_12, mvn_12, mbn_12, mpn_12) → mwn_15 = nE 5 15 (mkn_12, mvn_12, mbn_12, mpn_12))) (f_15_1_0 : nGG ft_ mz 5 15 44 (mkn_12, mvn_12, mbn_12, mpn_12)) (hR_15 : okR frn_15 cq 0 0 0) (Lb : lRb ft_ mz = (((mkn_15, mvn_15, mbn_15, mpn_15), m38 frn_15), 0)) (L0 : m38 frn_15 0 = nI cq) (e_19 : v_19 = ((nI cq) - 1)) (hF_20_0 : mpn_20 ≤ mz) (hF_20_2 : nU ft_ mz 0 v_19 44 (mkn_15, mvn_15, mbn_15, mpn_15) = (mkn_20, mvn_20, mbn_20, mpn_20)) (hF_20_3 : m38 frn_20 = nR 0 v_19 1 (mkn_15, mvn_15, mbn_15, mpn_15) (m38 frn_15)) (hF_20_4 : (¬ nGG ft_ mz 0 v_19 44 (mkn_15, mvn_15, mbn_15, mpn_15) → mwn_20 = nE 0 v_19 (mkn_15, mvn_15, mbn_15, mpn_15))) (f_20_1_0 : nGG ft_ mz 0 v_19 44 (mkn_15, mvn_15, mbn_15, mpn_15)) (hR_20 : okR frn_20 cq 0 0 0) (Lc : lRc ft_ mz = (((mkn_20, mvn_20, mbn_20, mpn_20), m38 frn_20), 0)) (hF_23_0 : mpn_23 ≤ mz) (hF_23_2 : nU ft_ mz 0 4 59 (mkn_20, mvn_20, mbn_20, mpn_20) = (mkn_23, mvn_23, mbn_23, mpn_23)) (hF_23_3 : m38 frn_23 = nR 0 4 2 (mkn_20, mvn_20, mbn_20, mpn_20) (m38 frn_20)) (hF_23_4 : (¬ nGG ft_ mz 0 4 59 (mkn_20, mvn_20, mbn_20, mpn_20) → mwn_23 = nE 0 4 (mkn_20, mvn_20, mbn_20, mpn_20))) (f_23_1_0 : nGG ft_ mz 0 4 59 (mkn_20, mvn_20, mbn_20, mpn_20)) (hR_23 : okR frn_23 cq 0 0 0) (Ld : lRd ft_ mz = (((mkn_23, mvn_23, mbn_23, mpn_23), m38 frn_23), 0)) (hF_26_0 : mpn_26 ≤ mz) (hF_26_2 : wS ft_ mz ((mkn_23, mvn_23, mbn_23, mpn_23), m38 frn_23) = ((mkn_26, mvn_26, mbn_26, mpn_26), m38 frn_26)) (hF_26_3 : (¬ wGG ft_ mz ((mkn_23, mvn_23, mbn_23, mpn_23), m38 frn_23) → mwn_26 = wE ft_ mz ((mkn_23, mvn_23, mbn_23, mpn_23), m38 frn_23))) (f_26_1_0 : wGG ft_ mz ((mkn_23, mvn_23, mbn_23, mpn_23), m38 frn_23)) (hR_26 : okR frn_26 cq (0 + 1) 0 0) (Le : lRe ft_ mz = (((mkn_26, mvn_26, mbn_26, mpn_26), m38 frn_26), 0)) (hnb_w_107 : w_107 ≤ mz) (hW6 : W_ ≤ 6) (hLw : wL ft_ mz (7 - W_) (((w_108, w_109, w_110, w_107), m38 w_112), 0) = wL ft_ mz 6 (lRe ft_ mz)) (c_198 : w_108 = 1) (c_235 : ¬ (w_109 = 119)) (LW : wL ft_ mz 6 (lRe ft_ mz) = (((w_108, w_109, w_110, w_107), m38 w_112), 0)) (hnb_w_244 : w_244 ≤ mz) (hK6 : K_ ≤ 6) (hLs : sL ft_ mz (7 - K_) (((w_245, w_246, w_247, w_244), m38 w_249), 0) = rR ft_ mz) (L4 : m38 w_249 4 = nI K_) (L5 : (nI K_ = 0 ↔ K_ = 0)) (c_265 : ¬ (w_245 = 3)) (hF_266_0 : mpn_266 ≤ mz) (hF_266_2 : sS ft_ mz ((w_245, w_246, w_247, w_244), m38 w_249) = ((mkn_266, mvn_266, mbn_266, mpn_266), m38 frn_266)) (hF_266_3 : (¬ sGG ft_ mz ((w_245, w_246, w_247, w_244), m38 w_249) → mwn_266 = sE ft_ mz ((w_245, w_246, w_247, w_244), m38 w_249))) (f_266_1_0 : sGG ft_ mz ((w_245, w_246, w_247, w_244), m38 w_249)) (hR_266 : okR frn_266 cq W_ (K_ + 1) (K_ + 1)) : sL ft_ mz (7 - (K_ + 1)) (((mkn_266, mvn_266, mbn_266, mpn_266), m38 frn_266), 0) = rR ft_ mz := by
  rw [sL_go (by omega) (by exact ⟨rfl, by grind⟩)] at hLs
  rw [show 7 - (K_ + 1) = 7 - K_ - 1 by omega, ← hLs]
  refine congrArg _ ?_
  simp only [sR]
  grind
theorem lf_X8_readLevel_51 {mz : Nat} {ft_ : Nat → Int32} {w_3 : Nat → Int32} {g_10 : Nat → Int32} {mkn_11 : Int32} {mvn_11 : Int32} {mbn_11 : Int32} {mpn_11 : Nat} {mkn_12 : Int32} {mvn_12 : Int32} {mbn_12 : Int32} {mpn_12 : Nat} {mwn_12 : Int32} {mkn_15 : Int32} {mvn_15 : Int32} {mbn_15 : Int32} {mpn_15 : Nat} {mwn_15 : Int32} {frn_15 : Nat → Int32} {cq : Nat} {v_19 : Int32} {mkn_20 : Int32} {mvn_20 : Int32} {mbn_20 : Int32} {mpn_20 : Nat} {mwn_20 : Int32} {frn_20 : Nat → Int32} {mkn_23 : Int32} {mvn_23 : Int32} {mbn_23 : Int32} {mpn_23 : Nat} {mwn_23 : Int32} {frn_23 : Nat → Int32} {mkn_26 : Int32} {mvn_26 : Int32} {mbn_26 : Int32} {mpn_26 : Nat} {mwn_26 : Int32} {frn_26 : Nat → Int32} {w_107 : Nat} {w_108 : Int32} {w_109 : Int32} {w_110 : Int32} {w_112 : Nat → Int32} {W_ : Nat} {w_244 : Nat} {w_245 : Int32} {w_246 : Int32} {w_247 : Int32} {w_249 : Nat → Int32} {K_ : Nat} (hmz : mz ≤ 120) (hu_10 : g_10 = upd w_3 6 1) (Lr : m38 g_10 = r0) (hF_11_0 : mpn_11 ≤ mz) (hF_11_1 : nT ft_ mz 0 = (mkn_11, mvn_11, mbn_11, mpn_11)) (hF_12_0 : mpn_12 ≤ mz) (hF_12_1 : kU ft_ mz 109 (mkn_11, mvn_11, mbn_11, mpn_11) = (mkn_12, mvn_12, mbn_12, mpn_12)) (hF_12_2 : (¬ kG 109 (mkn_11, mvn_11, mbn_11, mpn_11) → mwn_12 = 1)) (f_12_1_0 : kG 109 (mkn_11, mvn_11, mbn_11, mpn_11)) (La : lRa ft_ mz = (((mkn_12, mvn_12, mbn_12, mpn_12), m38 g_10), 0)) (hF_15_0 : mpn_15 ≤ mz) (hF_15_2 : nU ft_ mz 5 15 44 (mkn_12, mvn_12, mbn_12, mpn_12) = (mkn_15, mvn_15, mbn_15, mpn_15)) (hF_15_3 : m38 frn_15 = nR 5 15 0 (mkn_12, mvn_12, mbn_12, mpn_12) (m38 g_10)) (hF_15_4 : (¬ nGG ft_ mz 5 15 44 (mkn_12, mvn_12, mbn_12, mpn_12) → mwn_15 = nE 5 15 (mkn_12, mvn_12, mbn_12, mpn_12))) (f_15_1_0 : nGG ft_ mz 5 15 44 (mkn_12, mvn_12, mbn_12, mpn_12)) (hR_15 : okR frn_15 cq 0 0 0) (Lb : lRb ft_ mz = (((mkn_15, mvn_15, mbn_15, mpn_15), m38 frn_15), 0)) (L0 : m38 frn_15 0 = nI cq) (e_19 : v_19 = ((nI cq) - 1)) (hF_20_0 : mpn_20 ≤ mz) (hF_20_2 : nU ft_ mz 0 v_19 44 (mkn_15, mvn_15, mbn_15, mpn_15) = (mkn_20, mvn_20, mbn_20, mpn_20)) (hF_20_3 : m38 frn_20 = nR 0 v_19 1 (mkn_15, mvn_15, mbn_15, mpn_15) (m38 frn_15)) (hF_20_4 : (¬ nGG ft_ mz 0 v_19 44 (mkn_15, mvn_15, mbn_15, mpn_15) → mwn_20 = nE 0 v_19 (mkn_15, mvn_15, mbn_15, mpn_15))) (f_20_1_0 : nGG ft_ mz 0 v_19 44 (mkn_15, mvn_15, mbn_15, mpn_15)) (hR_20 : okR frn_20 cq 0 0 0) (Lc : lRc ft_ mz = (((mkn_20, mvn_20, mbn_20, mpn_20), m38 frn_20), 0)) (hF_23_0 : mpn_23 ≤ mz) (hF_23_2 : nU ft_ mz 0 4 59 (mkn_20, mvn_20, mbn_20, mpn_20) = (mkn_23, mvn_23, mbn_23, mpn_23)) (hF_23_3 : m38 frn_23 = nR 0 4 2 (mkn_20, mvn_20, mbn_20, mpn_20) (m38 frn_20)) (hF_23_4 : (¬ nGG ft_ mz 0 4 59 (mkn_20, mvn_20, mbn_20, mpn_20) → mwn_23 = nE 0 4 (mkn_20, mvn_20, mbn_20, mpn_20))) (f_23_1_0 : nGG ft_ mz 0 4 59 (mkn_20, mvn_20, mbn_20, mpn_20)) (hR_23 : okR frn_23 cq 0 0 0) (Ld : lRd ft_ mz = (((mkn_23, mvn_23, mbn_23, mpn_23), m38 frn_23), 0)) (hF_26_0 : mpn_26 ≤ mz) (hF_26_2 : wS ft_ mz ((mkn_23, mvn_23, mbn_23, mpn_23), m38 frn_23) = ((mkn_26, mvn_26, mbn_26, mpn_26), m38 frn_26)) (hF_26_3 : (¬ wGG ft_ mz ((mkn_23, mvn_23, mbn_23, mpn_23), m38 frn_23) → mwn_26 = wE ft_ mz ((mkn_23, mvn_23, mbn_23, mpn_23), m38 frn_23))) (f_26_1_0 : wGG ft_ mz ((mkn_23, mvn_23, mbn_23, mpn_23), m38 frn_23)) (hR_26 : okR frn_26 cq (0 + 1) 0 0) (Le : lRe ft_ mz = (((mkn_26, mvn_26, mbn_26, mpn_26), m38 frn_26), 0)) (hnb_w_107 : w_107 ≤ mz) (hW6 : W_ ≤ 6) (hLw : wL ft_ mz (7 - W_) (((w_108, w_109, w_110, w_107), m38 w_112), 0) = wL ft_ mz 6 (lRe ft_ mz)) (c_198 : w_108 = 1) (c_235 : ¬ (w_109 = 119)) (LW : wL ft_ mz 6 (lRe ft_ mz) = (((w_108, w_109, w_110, w_107), m38 w_112), 0)) (hnb_w_244 : w_244 ≤ mz) (hK6 : K_ ≤ 6) (hLs : sL ft_ mz (7 - K_) (((w_245, w_246, w_247, w_244), m38 w_249), 0) = rR ft_ mz) (L4 : m38 w_249 4 = nI K_) (L5 : (nI K_ = 0 ↔ K_ = 0)) (c_265 : w_245 = 3) (c_269 : ¬ (K_ = 0)) : rR ft_ mz = (((w_245, w_246, w_247, w_244), m38 w_249), 0) := by
  rw [← hLs]
  exact sL_stop (fun q => q.2 (by grind))
theorem lf_X8_readLevel_52 {mz : Nat} {ft_ : Nat → Int32} {w_3 : Nat → Int32} {g_10 : Nat → Int32} {mkn_11 : Int32} {mvn_11 : Int32} {mbn_11 : Int32} {mpn_11 : Nat} {mkn_12 : Int32} {mvn_12 : Int32} {mbn_12 : Int32} {mpn_12 : Nat} {mwn_12 : Int32} {mkn_15 : Int32} {mvn_15 : Int32} {mbn_15 : Int32} {mpn_15 : Nat} {mwn_15 : Int32} {frn_15 : Nat → Int32} {cq : Nat} {v_19 : Int32} {mkn_20 : Int32} {mvn_20 : Int32} {mbn_20 : Int32} {mpn_20 : Nat} {mwn_20 : Int32} {frn_20 : Nat → Int32} {mkn_23 : Int32} {mvn_23 : Int32} {mbn_23 : Int32} {mpn_23 : Nat} {mwn_23 : Int32} {frn_23 : Nat → Int32} {mkn_26 : Int32} {mvn_26 : Int32} {mbn_26 : Int32} {mpn_26 : Nat} {mwn_26 : Int32} {frn_26 : Nat → Int32} {w_107 : Nat} {w_108 : Int32} {w_109 : Int32} {w_110 : Int32} {w_112 : Nat → Int32} {W_ : Nat} {w_244 : Nat} {w_245 : Int32} {w_246 : Int32} {w_247 : Int32} {w_249 : Nat → Int32} {K_ : Nat} (hmz : mz ≤ 120) (hu_10 : g_10 = upd w_3 6 1) (Lr : m38 g_10 = r0) (hF_11_0 : mpn_11 ≤ mz) (hF_11_1 : nT ft_ mz 0 = (mkn_11, mvn_11, mbn_11, mpn_11)) (hF_12_0 : mpn_12 ≤ mz) (hF_12_1 : kU ft_ mz 109 (mkn_11, mvn_11, mbn_11, mpn_11) = (mkn_12, mvn_12, mbn_12, mpn_12)) (hF_12_2 : (¬ kG 109 (mkn_11, mvn_11, mbn_11, mpn_11) → mwn_12 = 1)) (f_12_1_0 : kG 109 (mkn_11, mvn_11, mbn_11, mpn_11)) (La : lRa ft_ mz = (((mkn_12, mvn_12, mbn_12, mpn_12), m38 g_10), 0)) (hF_15_0 : mpn_15 ≤ mz) (hF_15_2 : nU ft_ mz 5 15 44 (mkn_12, mvn_12, mbn_12, mpn_12) = (mkn_15, mvn_15, mbn_15, mpn_15)) (hF_15_3 : m38 frn_15 = nR 5 15 0 (mkn_12, mvn_12, mbn_12, mpn_12) (m38 g_10)) (hF_15_4 : (¬ nGG ft_ mz 5 15 44 (mkn_12, mvn_12, mbn_12, mpn_12) → mwn_15 = nE 5 15 (mkn_12, mvn_12, mbn_12, mpn_12))) (f_15_1_0 : nGG ft_ mz 5 15 44 (mkn_12, mvn_12, mbn_12, mpn_12)) (hR_15 : okR frn_15 cq 0 0 0) (Lb : lRb ft_ mz = (((mkn_15, mvn_15, mbn_15, mpn_15), m38 frn_15), 0)) (L0 : m38 frn_15 0 = nI cq) (e_19 : v_19 = ((nI cq) - 1)) (hF_20_0 : mpn_20 ≤ mz) (hF_20_2 : nU ft_ mz 0 v_19 44 (mkn_15, mvn_15, mbn_15, mpn_15) = (mkn_20, mvn_20, mbn_20, mpn_20)) (hF_20_3 : m38 frn_20 = nR 0 v_19 1 (mkn_15, mvn_15, mbn_15, mpn_15) (m38 frn_15)) (hF_20_4 : (¬ nGG ft_ mz 0 v_19 44 (mkn_15, mvn_15, mbn_15, mpn_15) → mwn_20 = nE 0 v_19 (mkn_15, mvn_15, mbn_15, mpn_15))) (f_20_1_0 : nGG ft_ mz 0 v_19 44 (mkn_15, mvn_15, mbn_15, mpn_15)) (hR_20 : okR frn_20 cq 0 0 0) (Lc : lRc ft_ mz = (((mkn_20, mvn_20, mbn_20, mpn_20), m38 frn_20), 0)) (hF_23_0 : mpn_23 ≤ mz) (hF_23_2 : nU ft_ mz 0 4 59 (mkn_20, mvn_20, mbn_20, mpn_20) = (mkn_23, mvn_23, mbn_23, mpn_23)) (hF_23_3 : m38 frn_23 = nR 0 4 2 (mkn_20, mvn_20, mbn_20, mpn_20) (m38 frn_20)) (hF_23_4 : (¬ nGG ft_ mz 0 4 59 (mkn_20, mvn_20, mbn_20, mpn_20) → mwn_23 = nE 0 4 (mkn_20, mvn_20, mbn_20, mpn_20))) (f_23_1_0 : nGG ft_ mz 0 4 59 (mkn_20, mvn_20, mbn_20, mpn_20)) (hR_23 : okR frn_23 cq 0 0 0) (Ld : lRd ft_ mz = (((mkn_23, mvn_23, mbn_23, mpn_23), m38 frn_23), 0)) (hF_26_0 : mpn_26 ≤ mz) (hF_26_2 : wS ft_ mz ((mkn_23, mvn_23, mbn_23, mpn_23), m38 frn_23) = ((mkn_26, mvn_26, mbn_26, mpn_26), m38 frn_26)) (hF_26_3 : (¬ wGG ft_ mz ((mkn_23, mvn_23, mbn_23, mpn_23), m38 frn_23) → mwn_26 = wE ft_ mz ((mkn_23, mvn_23, mbn_23, mpn_23), m38 frn_23))) (f_26_1_0 : wGG ft_ mz ((mkn_23, mvn_23, mbn_23, mpn_23), m38 frn_23)) (hR_26 : okR frn_26 cq (0 + 1) 0 0) (Le : lRe ft_ mz = (((mkn_26, mvn_26, mbn_26, mpn_26), m38 frn_26), 0)) (hnb_w_107 : w_107 ≤ mz) (hW6 : W_ ≤ 6) (hLw : wL ft_ mz (7 - W_) (((w_108, w_109, w_110, w_107), m38 w_112), 0) = wL ft_ mz 6 (lRe ft_ mz)) (c_198 : w_108 = 1) (c_235 : ¬ (w_109 = 119)) (LW : wL ft_ mz 6 (lRe ft_ mz) = (((w_108, w_109, w_110, w_107), m38 w_112), 0)) (hnb_w_244 : w_244 ≤ mz) (hK6 : K_ ≤ 6) (hLs : sL ft_ mz (7 - K_) (((w_245, w_246, w_247, w_244), m38 w_249), 0) = rR ft_ mz) (L4 : m38 w_249 4 = nI K_) (L5 : (nI K_ = 0 ↔ K_ = 0)) (c_265 : w_245 = 3) (c_269 : ¬ (K_ = 0)) (Lx : rR ft_ mz = (((w_245, w_246, w_247, w_244), m38 w_249), 0)) : (rR ft_ mz).1 = ((w_245, w_246, w_247, w_244), m38 w_249) := by
  first
  | (rw [Lx]; exact Ln)
  | (rw [Lx]; done)
  | (intro q_; rw [Lx]; grind)
  | grind
theorem lf_X8_readLevel_53 {mz : Nat} {ft_ : Nat → Int32} {w_3 : Nat → Int32} {g_10 : Nat → Int32} {mkn_11 : Int32} {mvn_11 : Int32} {mbn_11 : Int32} {mpn_11 : Nat} {mkn_12 : Int32} {mvn_12 : Int32} {mbn_12 : Int32} {mpn_12 : Nat} {mwn_12 : Int32} {mkn_15 : Int32} {mvn_15 : Int32} {mbn_15 : Int32} {mpn_15 : Nat} {mwn_15 : Int32} {frn_15 : Nat → Int32} {cq : Nat} {v_19 : Int32} {mkn_20 : Int32} {mvn_20 : Int32} {mbn_20 : Int32} {mpn_20 : Nat} {mwn_20 : Int32} {frn_20 : Nat → Int32} {mkn_23 : Int32} {mvn_23 : Int32} {mbn_23 : Int32} {mpn_23 : Nat} {mwn_23 : Int32} {frn_23 : Nat → Int32} {mkn_26 : Int32} {mvn_26 : Int32} {mbn_26 : Int32} {mpn_26 : Nat} {mwn_26 : Int32} {frn_26 : Nat → Int32} {w_107 : Nat} {w_108 : Int32} {w_109 : Int32} {w_110 : Int32} {w_112 : Nat → Int32} {W_ : Nat} {w_244 : Nat} {w_245 : Int32} {w_246 : Int32} {w_247 : Int32} {w_248 : Int32} {w_249 : Nat → Int32} {K_ : Nat} (hmz : mz ≤ 120) (hu_10 : g_10 = upd w_3 6 1) (Lr : m38 g_10 = r0) (hF_11_0 : mpn_11 ≤ mz) (hF_11_1 : nT ft_ mz 0 = (mkn_11, mvn_11, mbn_11, mpn_11)) (hF_12_0 : mpn_12 ≤ mz) (hF_12_1 : kU ft_ mz 109 (mkn_11, mvn_11, mbn_11, mpn_11) = (mkn_12, mvn_12, mbn_12, mpn_12)) (hF_12_2 : (¬ kG 109 (mkn_11, mvn_11, mbn_11, mpn_11) → mwn_12 = 1)) (f_12_1_0 : kG 109 (mkn_11, mvn_11, mbn_11, mpn_11)) (La : lRa ft_ mz = (((mkn_12, mvn_12, mbn_12, mpn_12), m38 g_10), 0)) (hF_15_0 : mpn_15 ≤ mz) (hF_15_2 : nU ft_ mz 5 15 44 (mkn_12, mvn_12, mbn_12, mpn_12) = (mkn_15, mvn_15, mbn_15, mpn_15)) (hF_15_3 : m38 frn_15 = nR 5 15 0 (mkn_12, mvn_12, mbn_12, mpn_12) (m38 g_10)) (hF_15_4 : (¬ nGG ft_ mz 5 15 44 (mkn_12, mvn_12, mbn_12, mpn_12) → mwn_15 = nE 5 15 (mkn_12, mvn_12, mbn_12, mpn_12))) (f_15_1_0 : nGG ft_ mz 5 15 44 (mkn_12, mvn_12, mbn_12, mpn_12)) (hR_15 : okR frn_15 cq 0 0 0) (Lb : lRb ft_ mz = (((mkn_15, mvn_15, mbn_15, mpn_15), m38 frn_15), 0)) (L0 : m38 frn_15 0 = nI cq) (e_19 : v_19 = ((nI cq) - 1)) (hF_20_0 : mpn_20 ≤ mz) (hF_20_2 : nU ft_ mz 0 v_19 44 (mkn_15, mvn_15, mbn_15, mpn_15) = (mkn_20, mvn_20, mbn_20, mpn_20)) (hF_20_3 : m38 frn_20 = nR 0 v_19 1 (mkn_15, mvn_15, mbn_15, mpn_15) (m38 frn_15)) (hF_20_4 : (¬ nGG ft_ mz 0 v_19 44 (mkn_15, mvn_15, mbn_15, mpn_15) → mwn_20 = nE 0 v_19 (mkn_15, mvn_15, mbn_15, mpn_15))) (f_20_1_0 : nGG ft_ mz 0 v_19 44 (mkn_15, mvn_15, mbn_15, mpn_15)) (hR_20 : okR frn_20 cq 0 0 0) (Lc : lRc ft_ mz = (((mkn_20, mvn_20, mbn_20, mpn_20), m38 frn_20), 0)) (hF_23_0 : mpn_23 ≤ mz) (hF_23_2 : nU ft_ mz 0 4 59 (mkn_20, mvn_20, mbn_20, mpn_20) = (mkn_23, mvn_23, mbn_23, mpn_23)) (hF_23_3 : m38 frn_23 = nR 0 4 2 (mkn_20, mvn_20, mbn_20, mpn_20) (m38 frn_20)) (hF_23_4 : (¬ nGG ft_ mz 0 4 59 (mkn_20, mvn_20, mbn_20, mpn_20) → mwn_23 = nE 0 4 (mkn_20, mvn_20, mbn_20, mpn_20))) (f_23_1_0 : nGG ft_ mz 0 4 59 (mkn_20, mvn_20, mbn_20, mpn_20)) (hR_23 : okR frn_23 cq 0 0 0) (Ld : lRd ft_ mz = (((mkn_23, mvn_23, mbn_23, mpn_23), m38 frn_23), 0)) (hF_26_0 : mpn_26 ≤ mz) (hF_26_2 : wS ft_ mz ((mkn_23, mvn_23, mbn_23, mpn_23), m38 frn_23) = ((mkn_26, mvn_26, mbn_26, mpn_26), m38 frn_26)) (hF_26_3 : (¬ wGG ft_ mz ((mkn_23, mvn_23, mbn_23, mpn_23), m38 frn_23) → mwn_26 = wE ft_ mz ((mkn_23, mvn_23, mbn_23, mpn_23), m38 frn_23))) (f_26_1_0 : wGG ft_ mz ((mkn_23, mvn_23, mbn_23, mpn_23), m38 frn_23)) (hR_26 : okR frn_26 cq (0 + 1) 0 0) (Le : lRe ft_ mz = (((mkn_26, mvn_26, mbn_26, mpn_26), m38 frn_26), 0)) (hnb_w_107 : w_107 ≤ mz) (hW6 : W_ ≤ 6) (hLw : wL ft_ mz (7 - W_) (((w_108, w_109, w_110, w_107), m38 w_112), 0) = wL ft_ mz 6 (lRe ft_ mz)) (c_198 : w_108 = 1) (c_235 : ¬ (w_109 = 119)) (LW : wL ft_ mz 6 (lRe ft_ mz) = (((w_108, w_109, w_110, w_107), m38 w_112), 0)) (hnb_w_244 : w_244 ≤ mz) (hK6 : K_ ≤ 6) (hLs : sL ft_ mz (7 - K_) (((w_245, w_246, w_247, w_244), m38 w_249), 0) = rR ft_ mz) (L4 : m38 w_249 4 = nI K_) (L5 : (nI K_ = 0 ↔ K_ = 0)) (c_265 : w_245 = 3) (c_269 : ¬ (K_ = 0)) (Lx : rR ft_ mz = (((w_245, w_246, w_247, w_244), m38 w_249), 0)) : (¬ (rR ft_ mz).2 = 0 → w_248 = (rR ft_ mz).2) := by
  first
  | (rw [Lx]; exact Ln)
  | (rw [Lx]; done)
  | (intro q_; rw [Lx]; grind)
  | grind
theorem lf_X8_readLevel_54 {mz : Nat} {ft_ : Nat → Int32} {w_3 : Nat → Int32} {g_10 : Nat → Int32} {mkn_11 : Int32} {mvn_11 : Int32} {mbn_11 : Int32} {mpn_11 : Nat} {mkn_12 : Int32} {mvn_12 : Int32} {mbn_12 : Int32} {mpn_12 : Nat} {mwn_12 : Int32} {mkn_15 : Int32} {mvn_15 : Int32} {mbn_15 : Int32} {mpn_15 : Nat} {mwn_15 : Int32} {frn_15 : Nat → Int32} {cq : Nat} {v_19 : Int32} {mkn_20 : Int32} {mvn_20 : Int32} {mbn_20 : Int32} {mpn_20 : Nat} {mwn_20 : Int32} {frn_20 : Nat → Int32} {mkn_23 : Int32} {mvn_23 : Int32} {mbn_23 : Int32} {mpn_23 : Nat} {mwn_23 : Int32} {frn_23 : Nat → Int32} {mkn_26 : Int32} {mvn_26 : Int32} {mbn_26 : Int32} {mpn_26 : Nat} {mwn_26 : Int32} {frn_26 : Nat → Int32} {w_107 : Nat} {w_108 : Int32} {w_109 : Int32} {w_110 : Int32} {w_112 : Nat → Int32} {W_ : Nat} {w_244 : Nat} {w_245 : Int32} {w_246 : Int32} {w_247 : Int32} {w_249 : Nat → Int32} {K_ : Nat} (hmz : mz ≤ 120) (hu_10 : g_10 = upd w_3 6 1) (Lr : m38 g_10 = r0) (hF_11_0 : mpn_11 ≤ mz) (hF_11_1 : nT ft_ mz 0 = (mkn_11, mvn_11, mbn_11, mpn_11)) (hF_12_0 : mpn_12 ≤ mz) (hF_12_1 : kU ft_ mz 109 (mkn_11, mvn_11, mbn_11, mpn_11) = (mkn_12, mvn_12, mbn_12, mpn_12)) (hF_12_2 : (¬ kG 109 (mkn_11, mvn_11, mbn_11, mpn_11) → mwn_12 = 1)) (f_12_1_0 : kG 109 (mkn_11, mvn_11, mbn_11, mpn_11)) (La : lRa ft_ mz = (((mkn_12, mvn_12, mbn_12, mpn_12), m38 g_10), 0)) (hF_15_0 : mpn_15 ≤ mz) (hF_15_2 : nU ft_ mz 5 15 44 (mkn_12, mvn_12, mbn_12, mpn_12) = (mkn_15, mvn_15, mbn_15, mpn_15)) (hF_15_3 : m38 frn_15 = nR 5 15 0 (mkn_12, mvn_12, mbn_12, mpn_12) (m38 g_10)) (hF_15_4 : (¬ nGG ft_ mz 5 15 44 (mkn_12, mvn_12, mbn_12, mpn_12) → mwn_15 = nE 5 15 (mkn_12, mvn_12, mbn_12, mpn_12))) (f_15_1_0 : nGG ft_ mz 5 15 44 (mkn_12, mvn_12, mbn_12, mpn_12)) (hR_15 : okR frn_15 cq 0 0 0) (Lb : lRb ft_ mz = (((mkn_15, mvn_15, mbn_15, mpn_15), m38 frn_15), 0)) (L0 : m38 frn_15 0 = nI cq) (e_19 : v_19 = ((nI cq) - 1)) (hF_20_0 : mpn_20 ≤ mz) (hF_20_2 : nU ft_ mz 0 v_19 44 (mkn_15, mvn_15, mbn_15, mpn_15) = (mkn_20, mvn_20, mbn_20, mpn_20)) (hF_20_3 : m38 frn_20 = nR 0 v_19 1 (mkn_15, mvn_15, mbn_15, mpn_15) (m38 frn_15)) (hF_20_4 : (¬ nGG ft_ mz 0 v_19 44 (mkn_15, mvn_15, mbn_15, mpn_15) → mwn_20 = nE 0 v_19 (mkn_15, mvn_15, mbn_15, mpn_15))) (f_20_1_0 : nGG ft_ mz 0 v_19 44 (mkn_15, mvn_15, mbn_15, mpn_15)) (hR_20 : okR frn_20 cq 0 0 0) (Lc : lRc ft_ mz = (((mkn_20, mvn_20, mbn_20, mpn_20), m38 frn_20), 0)) (hF_23_0 : mpn_23 ≤ mz) (hF_23_2 : nU ft_ mz 0 4 59 (mkn_20, mvn_20, mbn_20, mpn_20) = (mkn_23, mvn_23, mbn_23, mpn_23)) (hF_23_3 : m38 frn_23 = nR 0 4 2 (mkn_20, mvn_20, mbn_20, mpn_20) (m38 frn_20)) (hF_23_4 : (¬ nGG ft_ mz 0 4 59 (mkn_20, mvn_20, mbn_20, mpn_20) → mwn_23 = nE 0 4 (mkn_20, mvn_20, mbn_20, mpn_20))) (f_23_1_0 : nGG ft_ mz 0 4 59 (mkn_20, mvn_20, mbn_20, mpn_20)) (hR_23 : okR frn_23 cq 0 0 0) (Ld : lRd ft_ mz = (((mkn_23, mvn_23, mbn_23, mpn_23), m38 frn_23), 0)) (hF_26_0 : mpn_26 ≤ mz) (hF_26_2 : wS ft_ mz ((mkn_23, mvn_23, mbn_23, mpn_23), m38 frn_23) = ((mkn_26, mvn_26, mbn_26, mpn_26), m38 frn_26)) (hF_26_3 : (¬ wGG ft_ mz ((mkn_23, mvn_23, mbn_23, mpn_23), m38 frn_23) → mwn_26 = wE ft_ mz ((mkn_23, mvn_23, mbn_23, mpn_23), m38 frn_23))) (f_26_1_0 : wGG ft_ mz ((mkn_23, mvn_23, mbn_23, mpn_23), m38 frn_23)) (hR_26 : okR frn_26 cq (0 + 1) 0 0) (Le : lRe ft_ mz = (((mkn_26, mvn_26, mbn_26, mpn_26), m38 frn_26), 0)) (hnb_w_107 : w_107 ≤ mz) (hW6 : W_ ≤ 6) (hLw : wL ft_ mz (7 - W_) (((w_108, w_109, w_110, w_107), m38 w_112), 0) = wL ft_ mz 6 (lRe ft_ mz)) (c_198 : w_108 = 1) (c_235 : ¬ (w_109 = 119)) (LW : wL ft_ mz 6 (lRe ft_ mz) = (((w_108, w_109, w_110, w_107), m38 w_112), 0)) (hnb_w_244 : w_244 ≤ mz) (hK6 : K_ ≤ 6) (hLs : sL ft_ mz (7 - K_) (((w_245, w_246, w_247, w_244), m38 w_249), 0) = rR ft_ mz) (L4 : m38 w_249 4 = nI K_) (L5 : (nI K_ = 0 ↔ K_ = 0)) (c_265 : w_245 = 3) (c_269 : ¬ (K_ = 0)) (Lx : rR ft_ mz = (((w_245, w_246, w_247, w_244), m38 w_249), 0)) : (rR ft_ mz).2 = 0 := by
  first
  | (rw [Lx]; exact Ln)
  | (rw [Lx]; done)
  | (intro q_; rw [Lx]; grind)
  | grind
theorem lf_X8_readLevel_55 {mz : Nat} {ft_ : Nat → Int32} {w_3 : Nat → Int32} {g_10 : Nat → Int32} {mkn_11 : Int32} {mvn_11 : Int32} {mbn_11 : Int32} {mpn_11 : Nat} {mkn_12 : Int32} {mvn_12 : Int32} {mbn_12 : Int32} {mpn_12 : Nat} {mwn_12 : Int32} {mkn_15 : Int32} {mvn_15 : Int32} {mbn_15 : Int32} {mpn_15 : Nat} {mwn_15 : Int32} {frn_15 : Nat → Int32} {cq : Nat} {v_19 : Int32} {mkn_20 : Int32} {mvn_20 : Int32} {mbn_20 : Int32} {mpn_20 : Nat} {mwn_20 : Int32} {frn_20 : Nat → Int32} {mkn_23 : Int32} {mvn_23 : Int32} {mbn_23 : Int32} {mpn_23 : Nat} {mwn_23 : Int32} {frn_23 : Nat → Int32} {mkn_26 : Int32} {mvn_26 : Int32} {mbn_26 : Int32} {mpn_26 : Nat} {mwn_26 : Int32} {frn_26 : Nat → Int32} {w_107 : Nat} {w_108 : Int32} {w_109 : Int32} {w_110 : Int32} {w_112 : Nat → Int32} {W_ : Nat} {w_244 : Nat} {w_245 : Int32} {w_246 : Int32} {w_247 : Int32} {w_249 : Nat → Int32} {K_ : Nat} {mkn_270 : Int32} {mvn_270 : Int32} {mbn_270 : Int32} {mpn_270 : Nat} {mwn_270 : Int32} {frn_270 : Nat → Int32} (hmz : mz ≤ 120) (hu_10 : g_10 = upd w_3 6 1) (Lr : m38 g_10 = r0) (hF_11_0 : mpn_11 ≤ mz) (hF_11_1 : nT ft_ mz 0 = (mkn_11, mvn_11, mbn_11, mpn_11)) (hF_12_0 : mpn_12 ≤ mz) (hF_12_1 : kU ft_ mz 109 (mkn_11, mvn_11, mbn_11, mpn_11) = (mkn_12, mvn_12, mbn_12, mpn_12)) (hF_12_2 : (¬ kG 109 (mkn_11, mvn_11, mbn_11, mpn_11) → mwn_12 = 1)) (f_12_1_0 : kG 109 (mkn_11, mvn_11, mbn_11, mpn_11)) (La : lRa ft_ mz = (((mkn_12, mvn_12, mbn_12, mpn_12), m38 g_10), 0)) (hF_15_0 : mpn_15 ≤ mz) (hF_15_2 : nU ft_ mz 5 15 44 (mkn_12, mvn_12, mbn_12, mpn_12) = (mkn_15, mvn_15, mbn_15, mpn_15)) (hF_15_3 : m38 frn_15 = nR 5 15 0 (mkn_12, mvn_12, mbn_12, mpn_12) (m38 g_10)) (hF_15_4 : (¬ nGG ft_ mz 5 15 44 (mkn_12, mvn_12, mbn_12, mpn_12) → mwn_15 = nE 5 15 (mkn_12, mvn_12, mbn_12, mpn_12))) (f_15_1_0 : nGG ft_ mz 5 15 44 (mkn_12, mvn_12, mbn_12, mpn_12)) (hR_15 : okR frn_15 cq 0 0 0) (Lb : lRb ft_ mz = (((mkn_15, mvn_15, mbn_15, mpn_15), m38 frn_15), 0)) (L0 : m38 frn_15 0 = nI cq) (e_19 : v_19 = ((nI cq) - 1)) (hF_20_0 : mpn_20 ≤ mz) (hF_20_2 : nU ft_ mz 0 v_19 44 (mkn_15, mvn_15, mbn_15, mpn_15) = (mkn_20, mvn_20, mbn_20, mpn_20)) (hF_20_3 : m38 frn_20 = nR 0 v_19 1 (mkn_15, mvn_15, mbn_15, mpn_15) (m38 frn_15)) (hF_20_4 : (¬ nGG ft_ mz 0 v_19 44 (mkn_15, mvn_15, mbn_15, mpn_15) → mwn_20 = nE 0 v_19 (mkn_15, mvn_15, mbn_15, mpn_15))) (f_20_1_0 : nGG ft_ mz 0 v_19 44 (mkn_15, mvn_15, mbn_15, mpn_15)) (hR_20 : okR frn_20 cq 0 0 0) (Lc : lRc ft_ mz = (((mkn_20, mvn_20, mbn_20, mpn_20), m38 frn_20), 0)) (hF_23_0 : mpn_23 ≤ mz) (hF_23_2 : nU ft_ mz 0 4 59 (mkn_20, mvn_20, mbn_20, mpn_20) = (mkn_23, mvn_23, mbn_23, mpn_23)) (hF_23_3 : m38 frn_23 = nR 0 4 2 (mkn_20, mvn_20, mbn_20, mpn_20) (m38 frn_20)) (hF_23_4 : (¬ nGG ft_ mz 0 4 59 (mkn_20, mvn_20, mbn_20, mpn_20) → mwn_23 = nE 0 4 (mkn_20, mvn_20, mbn_20, mpn_20))) (f_23_1_0 : nGG ft_ mz 0 4 59 (mkn_20, mvn_20, mbn_20, mpn_20)) (hR_23 : okR frn_23 cq 0 0 0) (Ld : lRd ft_ mz = (((mkn_23, mvn_23, mbn_23, mpn_23), m38 frn_23), 0)) (hF_26_0 : mpn_26 ≤ mz) (hF_26_2 : wS ft_ mz ((mkn_23, mvn_23, mbn_23, mpn_23), m38 frn_23) = ((mkn_26, mvn_26, mbn_26, mpn_26), m38 frn_26)) (hF_26_3 : (¬ wGG ft_ mz ((mkn_23, mvn_23, mbn_23, mpn_23), m38 frn_23) → mwn_26 = wE ft_ mz ((mkn_23, mvn_23, mbn_23, mpn_23), m38 frn_23))) (f_26_1_0 : wGG ft_ mz ((mkn_23, mvn_23, mbn_23, mpn_23), m38 frn_23)) (hR_26 : okR frn_26 cq (0 + 1) 0 0) (Le : lRe ft_ mz = (((mkn_26, mvn_26, mbn_26, mpn_26), m38 frn_26), 0)) (hnb_w_107 : w_107 ≤ mz) (hW6 : W_ ≤ 6) (hLw : wL ft_ mz (7 - W_) (((w_108, w_109, w_110, w_107), m38 w_112), 0) = wL ft_ mz 6 (lRe ft_ mz)) (c_198 : w_108 = 1) (c_235 : ¬ (w_109 = 119)) (LW : wL ft_ mz 6 (lRe ft_ mz) = (((w_108, w_109, w_110, w_107), m38 w_112), 0)) (hnb_w_244 : w_244 ≤ mz) (hK6 : K_ ≤ 6) (hLs : sL ft_ mz (7 - K_) (((w_245, w_246, w_247, w_244), m38 w_249), 0) = rR ft_ mz) (L4 : m38 w_249 4 = nI K_) (L5 : (nI K_ = 0 ↔ K_ = 0)) (c_265 : w_245 = 3) (c_269 : K_ = 0) (hF_270_0 : mpn_270 ≤ mz) (hF_270_2 : sS ft_ mz ((w_245, w_246, w_247, w_244), m38 w_249) = ((mkn_270, mvn_270, mbn_270, mpn_270), m38 frn_270)) (hF_270_3 : (¬ sGG ft_ mz ((w_245, w_246, w_247, w_244), m38 w_249) → mwn_270 = sE ft_ mz ((w_245, w_246, w_247, w_244), m38 w_249))) (f_270_0_0 : ¬ sGG ft_ mz ((w_245, w_246, w_247, w_244), m38 w_249)) : rR ft_ mz = (((mkn_270, mvn_270, mbn_270, mpn_270), m38 frn_270), sE ft_ mz ((w_245, w_246, w_247, w_244), m38 w_249)) := by
  have h8 : sR ft_ mz ((w_245, w_246, w_247, w_244), m38 w_249) = (((mkn_270, mvn_270, mbn_270, mpn_270), m38 frn_270), sE ft_ mz ((w_245, w_246, w_247, w_244), m38 w_249)) := (by simp only [sR]; grind)
  rw [← hLs, sL_go (by omega) (by exact ⟨rfl, by grind⟩)]
  show sL ft_ mz (7 - K_ - 1) (sR ft_ mz ((w_245, w_246, w_247, w_244), m38 w_249)) = _
  rw [h8, sL_stop (fun q => sE_nz _ _ _ q.1)]
theorem lf_X8_readLevel_56 {mz : Nat} {ft_ : Nat → Int32} {w_3 : Nat → Int32} {g_10 : Nat → Int32} {mkn_11 : Int32} {mvn_11 : Int32} {mbn_11 : Int32} {mpn_11 : Nat} {mkn_12 : Int32} {mvn_12 : Int32} {mbn_12 : Int32} {mpn_12 : Nat} {mwn_12 : Int32} {mkn_15 : Int32} {mvn_15 : Int32} {mbn_15 : Int32} {mpn_15 : Nat} {mwn_15 : Int32} {frn_15 : Nat → Int32} {cq : Nat} {v_19 : Int32} {mkn_20 : Int32} {mvn_20 : Int32} {mbn_20 : Int32} {mpn_20 : Nat} {mwn_20 : Int32} {frn_20 : Nat → Int32} {mkn_23 : Int32} {mvn_23 : Int32} {mbn_23 : Int32} {mpn_23 : Nat} {mwn_23 : Int32} {frn_23 : Nat → Int32} {mkn_26 : Int32} {mvn_26 : Int32} {mbn_26 : Int32} {mpn_26 : Nat} {mwn_26 : Int32} {frn_26 : Nat → Int32} {w_107 : Nat} {w_108 : Int32} {w_109 : Int32} {w_110 : Int32} {w_112 : Nat → Int32} {W_ : Nat} {w_244 : Nat} {w_245 : Int32} {w_246 : Int32} {w_247 : Int32} {w_249 : Nat → Int32} {K_ : Nat} {mkn_270 : Int32} {mvn_270 : Int32} {mbn_270 : Int32} {mpn_270 : Nat} {mwn_270 : Int32} {frn_270 : Nat → Int32} (hmz : mz ≤ 120) (hu_10 : g_10 = upd w_3 6 1) (Lr : m38 g_10 = r0) (hF_11_0 : mpn_11 ≤ mz) (hF_11_1 : nT ft_ mz 0 = (mkn_11, mvn_11, mbn_11, mpn_11)) (hF_12_0 : mpn_12 ≤ mz) (hF_12_1 : kU ft_ mz 109 (mkn_11, mvn_11, mbn_11, mpn_11) = (mkn_12, mvn_12, mbn_12, mpn_12)) (hF_12_2 : (¬ kG 109 (mkn_11, mvn_11, mbn_11, mpn_11) → mwn_12 = 1)) (f_12_1_0 : kG 109 (mkn_11, mvn_11, mbn_11, mpn_11)) (La : lRa ft_ mz = (((mkn_12, mvn_12, mbn_12, mpn_12), m38 g_10), 0)) (hF_15_0 : mpn_15 ≤ mz) (hF_15_2 : nU ft_ mz 5 15 44 (mkn_12, mvn_12, mbn_12, mpn_12) = (mkn_15, mvn_15, mbn_15, mpn_15)) (hF_15_3 : m38 frn_15 = nR 5 15 0 (mkn_12, mvn_12, mbn_12, mpn_12) (m38 g_10)) (hF_15_4 : (¬ nGG ft_ mz 5 15 44 (mkn_12, mvn_12, mbn_12, mpn_12) → mwn_15 = nE 5 15 (mkn_12, mvn_12, mbn_12, mpn_12))) (f_15_1_0 : nGG ft_ mz 5 15 44 (mkn_12, mvn_12, mbn_12, mpn_12)) (hR_15 : okR frn_15 cq 0 0 0) (Lb : lRb ft_ mz = (((mkn_15, mvn_15, mbn_15, mpn_15), m38 frn_15), 0)) (L0 : m38 frn_15 0 = nI cq) (e_19 : v_19 = ((nI cq) - 1)) (hF_20_0 : mpn_20 ≤ mz) (hF_20_2 : nU ft_ mz 0 v_19 44 (mkn_15, mvn_15, mbn_15, mpn_15) = (mkn_20, mvn_20, mbn_20, mpn_20)) (hF_20_3 : m38 frn_20 = nR 0 v_19 1 (mkn_15, mvn_15, mbn_15, mpn_15) (m38 frn_15)) (hF_20_4 : (¬ nGG ft_ mz 0 v_19 44 (mkn_15, mvn_15, mbn_15, mpn_15) → mwn_20 = nE 0 v_19 (mkn_15, mvn_15, mbn_15, mpn_15))) (f_20_1_0 : nGG ft_ mz 0 v_19 44 (mkn_15, mvn_15, mbn_15, mpn_15)) (hR_20 : okR frn_20 cq 0 0 0) (Lc : lRc ft_ mz = (((mkn_20, mvn_20, mbn_20, mpn_20), m38 frn_20), 0)) (hF_23_0 : mpn_23 ≤ mz) (hF_23_2 : nU ft_ mz 0 4 59 (mkn_20, mvn_20, mbn_20, mpn_20) = (mkn_23, mvn_23, mbn_23, mpn_23)) (hF_23_3 : m38 frn_23 = nR 0 4 2 (mkn_20, mvn_20, mbn_20, mpn_20) (m38 frn_20)) (hF_23_4 : (¬ nGG ft_ mz 0 4 59 (mkn_20, mvn_20, mbn_20, mpn_20) → mwn_23 = nE 0 4 (mkn_20, mvn_20, mbn_20, mpn_20))) (f_23_1_0 : nGG ft_ mz 0 4 59 (mkn_20, mvn_20, mbn_20, mpn_20)) (hR_23 : okR frn_23 cq 0 0 0) (Ld : lRd ft_ mz = (((mkn_23, mvn_23, mbn_23, mpn_23), m38 frn_23), 0)) (hF_26_0 : mpn_26 ≤ mz) (hF_26_2 : wS ft_ mz ((mkn_23, mvn_23, mbn_23, mpn_23), m38 frn_23) = ((mkn_26, mvn_26, mbn_26, mpn_26), m38 frn_26)) (hF_26_3 : (¬ wGG ft_ mz ((mkn_23, mvn_23, mbn_23, mpn_23), m38 frn_23) → mwn_26 = wE ft_ mz ((mkn_23, mvn_23, mbn_23, mpn_23), m38 frn_23))) (f_26_1_0 : wGG ft_ mz ((mkn_23, mvn_23, mbn_23, mpn_23), m38 frn_23)) (hR_26 : okR frn_26 cq (0 + 1) 0 0) (Le : lRe ft_ mz = (((mkn_26, mvn_26, mbn_26, mpn_26), m38 frn_26), 0)) (hnb_w_107 : w_107 ≤ mz) (hW6 : W_ ≤ 6) (hLw : wL ft_ mz (7 - W_) (((w_108, w_109, w_110, w_107), m38 w_112), 0) = wL ft_ mz 6 (lRe ft_ mz)) (c_198 : w_108 = 1) (c_235 : ¬ (w_109 = 119)) (LW : wL ft_ mz 6 (lRe ft_ mz) = (((w_108, w_109, w_110, w_107), m38 w_112), 0)) (hnb_w_244 : w_244 ≤ mz) (hK6 : K_ ≤ 6) (hLs : sL ft_ mz (7 - K_) (((w_245, w_246, w_247, w_244), m38 w_249), 0) = rR ft_ mz) (L4 : m38 w_249 4 = nI K_) (L5 : (nI K_ = 0 ↔ K_ = 0)) (c_265 : w_245 = 3) (c_269 : K_ = 0) (hF_270_0 : mpn_270 ≤ mz) (hF_270_2 : sS ft_ mz ((w_245, w_246, w_247, w_244), m38 w_249) = ((mkn_270, mvn_270, mbn_270, mpn_270), m38 frn_270)) (hF_270_3 : (¬ sGG ft_ mz ((w_245, w_246, w_247, w_244), m38 w_249) → mwn_270 = sE ft_ mz ((w_245, w_246, w_247, w_244), m38 w_249))) (f_270_0_0 : ¬ sGG ft_ mz ((w_245, w_246, w_247, w_244), m38 w_249)) (Lx : rR ft_ mz = (((mkn_270, mvn_270, mbn_270, mpn_270), m38 frn_270), sE ft_ mz ((w_245, w_246, w_247, w_244), m38 w_249))) (Ln : ¬ sE ft_ mz ((w_245, w_246, w_247, w_244), m38 w_249) = 0) : (rR ft_ mz).1 = ((mkn_270, mvn_270, mbn_270, mpn_270), m38 frn_270) := by
  first
  | (rw [Lx]; exact Ln)
  | (rw [Lx]; done)
  | (intro q_; rw [Lx]; grind)
  | grind
theorem lf_X8_readLevel_57 {mz : Nat} {ft_ : Nat → Int32} {w_3 : Nat → Int32} {g_10 : Nat → Int32} {mkn_11 : Int32} {mvn_11 : Int32} {mbn_11 : Int32} {mpn_11 : Nat} {mkn_12 : Int32} {mvn_12 : Int32} {mbn_12 : Int32} {mpn_12 : Nat} {mwn_12 : Int32} {mkn_15 : Int32} {mvn_15 : Int32} {mbn_15 : Int32} {mpn_15 : Nat} {mwn_15 : Int32} {frn_15 : Nat → Int32} {cq : Nat} {v_19 : Int32} {mkn_20 : Int32} {mvn_20 : Int32} {mbn_20 : Int32} {mpn_20 : Nat} {mwn_20 : Int32} {frn_20 : Nat → Int32} {mkn_23 : Int32} {mvn_23 : Int32} {mbn_23 : Int32} {mpn_23 : Nat} {mwn_23 : Int32} {frn_23 : Nat → Int32} {mkn_26 : Int32} {mvn_26 : Int32} {mbn_26 : Int32} {mpn_26 : Nat} {mwn_26 : Int32} {frn_26 : Nat → Int32} {w_107 : Nat} {w_108 : Int32} {w_109 : Int32} {w_110 : Int32} {w_112 : Nat → Int32} {W_ : Nat} {w_244 : Nat} {w_245 : Int32} {w_246 : Int32} {w_247 : Int32} {w_249 : Nat → Int32} {K_ : Nat} {mkn_270 : Int32} {mvn_270 : Int32} {mbn_270 : Int32} {mpn_270 : Nat} {mwn_270 : Int32} {frn_270 : Nat → Int32} (hmz : mz ≤ 120) (hu_10 : g_10 = upd w_3 6 1) (Lr : m38 g_10 = r0) (hF_11_0 : mpn_11 ≤ mz) (hF_11_1 : nT ft_ mz 0 = (mkn_11, mvn_11, mbn_11, mpn_11)) (hF_12_0 : mpn_12 ≤ mz) (hF_12_1 : kU ft_ mz 109 (mkn_11, mvn_11, mbn_11, mpn_11) = (mkn_12, mvn_12, mbn_12, mpn_12)) (hF_12_2 : (¬ kG 109 (mkn_11, mvn_11, mbn_11, mpn_11) → mwn_12 = 1)) (f_12_1_0 : kG 109 (mkn_11, mvn_11, mbn_11, mpn_11)) (La : lRa ft_ mz = (((mkn_12, mvn_12, mbn_12, mpn_12), m38 g_10), 0)) (hF_15_0 : mpn_15 ≤ mz) (hF_15_2 : nU ft_ mz 5 15 44 (mkn_12, mvn_12, mbn_12, mpn_12) = (mkn_15, mvn_15, mbn_15, mpn_15)) (hF_15_3 : m38 frn_15 = nR 5 15 0 (mkn_12, mvn_12, mbn_12, mpn_12) (m38 g_10)) (hF_15_4 : (¬ nGG ft_ mz 5 15 44 (mkn_12, mvn_12, mbn_12, mpn_12) → mwn_15 = nE 5 15 (mkn_12, mvn_12, mbn_12, mpn_12))) (f_15_1_0 : nGG ft_ mz 5 15 44 (mkn_12, mvn_12, mbn_12, mpn_12)) (hR_15 : okR frn_15 cq 0 0 0) (Lb : lRb ft_ mz = (((mkn_15, mvn_15, mbn_15, mpn_15), m38 frn_15), 0)) (L0 : m38 frn_15 0 = nI cq) (e_19 : v_19 = ((nI cq) - 1)) (hF_20_0 : mpn_20 ≤ mz) (hF_20_2 : nU ft_ mz 0 v_19 44 (mkn_15, mvn_15, mbn_15, mpn_15) = (mkn_20, mvn_20, mbn_20, mpn_20)) (hF_20_3 : m38 frn_20 = nR 0 v_19 1 (mkn_15, mvn_15, mbn_15, mpn_15) (m38 frn_15)) (hF_20_4 : (¬ nGG ft_ mz 0 v_19 44 (mkn_15, mvn_15, mbn_15, mpn_15) → mwn_20 = nE 0 v_19 (mkn_15, mvn_15, mbn_15, mpn_15))) (f_20_1_0 : nGG ft_ mz 0 v_19 44 (mkn_15, mvn_15, mbn_15, mpn_15)) (hR_20 : okR frn_20 cq 0 0 0) (Lc : lRc ft_ mz = (((mkn_20, mvn_20, mbn_20, mpn_20), m38 frn_20), 0)) (hF_23_0 : mpn_23 ≤ mz) (hF_23_2 : nU ft_ mz 0 4 59 (mkn_20, mvn_20, mbn_20, mpn_20) = (mkn_23, mvn_23, mbn_23, mpn_23)) (hF_23_3 : m38 frn_23 = nR 0 4 2 (mkn_20, mvn_20, mbn_20, mpn_20) (m38 frn_20)) (hF_23_4 : (¬ nGG ft_ mz 0 4 59 (mkn_20, mvn_20, mbn_20, mpn_20) → mwn_23 = nE 0 4 (mkn_20, mvn_20, mbn_20, mpn_20))) (f_23_1_0 : nGG ft_ mz 0 4 59 (mkn_20, mvn_20, mbn_20, mpn_20)) (hR_23 : okR frn_23 cq 0 0 0) (Ld : lRd ft_ mz = (((mkn_23, mvn_23, mbn_23, mpn_23), m38 frn_23), 0)) (hF_26_0 : mpn_26 ≤ mz) (hF_26_2 : wS ft_ mz ((mkn_23, mvn_23, mbn_23, mpn_23), m38 frn_23) = ((mkn_26, mvn_26, mbn_26, mpn_26), m38 frn_26)) (hF_26_3 : (¬ wGG ft_ mz ((mkn_23, mvn_23, mbn_23, mpn_23), m38 frn_23) → mwn_26 = wE ft_ mz ((mkn_23, mvn_23, mbn_23, mpn_23), m38 frn_23))) (f_26_1_0 : wGG ft_ mz ((mkn_23, mvn_23, mbn_23, mpn_23), m38 frn_23)) (hR_26 : okR frn_26 cq (0 + 1) 0 0) (Le : lRe ft_ mz = (((mkn_26, mvn_26, mbn_26, mpn_26), m38 frn_26), 0)) (hnb_w_107 : w_107 ≤ mz) (hW6 : W_ ≤ 6) (hLw : wL ft_ mz (7 - W_) (((w_108, w_109, w_110, w_107), m38 w_112), 0) = wL ft_ mz 6 (lRe ft_ mz)) (c_198 : w_108 = 1) (c_235 : ¬ (w_109 = 119)) (LW : wL ft_ mz 6 (lRe ft_ mz) = (((w_108, w_109, w_110, w_107), m38 w_112), 0)) (hnb_w_244 : w_244 ≤ mz) (hK6 : K_ ≤ 6) (hLs : sL ft_ mz (7 - K_) (((w_245, w_246, w_247, w_244), m38 w_249), 0) = rR ft_ mz) (L4 : m38 w_249 4 = nI K_) (L5 : (nI K_ = 0 ↔ K_ = 0)) (c_265 : w_245 = 3) (c_269 : K_ = 0) (hF_270_0 : mpn_270 ≤ mz) (hF_270_2 : sS ft_ mz ((w_245, w_246, w_247, w_244), m38 w_249) = ((mkn_270, mvn_270, mbn_270, mpn_270), m38 frn_270)) (hF_270_3 : (¬ sGG ft_ mz ((w_245, w_246, w_247, w_244), m38 w_249) → mwn_270 = sE ft_ mz ((w_245, w_246, w_247, w_244), m38 w_249))) (f_270_0_0 : ¬ sGG ft_ mz ((w_245, w_246, w_247, w_244), m38 w_249)) (Lx : rR ft_ mz = (((mkn_270, mvn_270, mbn_270, mpn_270), m38 frn_270), sE ft_ mz ((w_245, w_246, w_247, w_244), m38 w_249))) (Ln : ¬ sE ft_ mz ((w_245, w_246, w_247, w_244), m38 w_249) = 0) : (¬ (rR ft_ mz).2 = 0 → mwn_270 = (rR ft_ mz).2) := by
  first
  | (rw [Lx]; exact Ln)
  | (rw [Lx]; done)
  | (intro q_; rw [Lx]; grind)
  | grind
theorem lf_X8_readLevel_58 {mz : Nat} {ft_ : Nat → Int32} {w_3 : Nat → Int32} {g_10 : Nat → Int32} {mkn_11 : Int32} {mvn_11 : Int32} {mbn_11 : Int32} {mpn_11 : Nat} {mkn_12 : Int32} {mvn_12 : Int32} {mbn_12 : Int32} {mpn_12 : Nat} {mwn_12 : Int32} {mkn_15 : Int32} {mvn_15 : Int32} {mbn_15 : Int32} {mpn_15 : Nat} {mwn_15 : Int32} {frn_15 : Nat → Int32} {cq : Nat} {v_19 : Int32} {mkn_20 : Int32} {mvn_20 : Int32} {mbn_20 : Int32} {mpn_20 : Nat} {mwn_20 : Int32} {frn_20 : Nat → Int32} {mkn_23 : Int32} {mvn_23 : Int32} {mbn_23 : Int32} {mpn_23 : Nat} {mwn_23 : Int32} {frn_23 : Nat → Int32} {mkn_26 : Int32} {mvn_26 : Int32} {mbn_26 : Int32} {mpn_26 : Nat} {mwn_26 : Int32} {frn_26 : Nat → Int32} {w_107 : Nat} {w_108 : Int32} {w_109 : Int32} {w_110 : Int32} {w_112 : Nat → Int32} {W_ : Nat} {w_244 : Nat} {w_245 : Int32} {w_246 : Int32} {w_247 : Int32} {w_249 : Nat → Int32} {K_ : Nat} {mkn_270 : Int32} {mvn_270 : Int32} {mbn_270 : Int32} {mpn_270 : Nat} {mwn_270 : Int32} {frn_270 : Nat → Int32} (hmz : mz ≤ 120) (hu_10 : g_10 = upd w_3 6 1) (Lr : m38 g_10 = r0) (hF_11_0 : mpn_11 ≤ mz) (hF_11_1 : nT ft_ mz 0 = (mkn_11, mvn_11, mbn_11, mpn_11)) (hF_12_0 : mpn_12 ≤ mz) (hF_12_1 : kU ft_ mz 109 (mkn_11, mvn_11, mbn_11, mpn_11) = (mkn_12, mvn_12, mbn_12, mpn_12)) (hF_12_2 : (¬ kG 109 (mkn_11, mvn_11, mbn_11, mpn_11) → mwn_12 = 1)) (f_12_1_0 : kG 109 (mkn_11, mvn_11, mbn_11, mpn_11)) (La : lRa ft_ mz = (((mkn_12, mvn_12, mbn_12, mpn_12), m38 g_10), 0)) (hF_15_0 : mpn_15 ≤ mz) (hF_15_2 : nU ft_ mz 5 15 44 (mkn_12, mvn_12, mbn_12, mpn_12) = (mkn_15, mvn_15, mbn_15, mpn_15)) (hF_15_3 : m38 frn_15 = nR 5 15 0 (mkn_12, mvn_12, mbn_12, mpn_12) (m38 g_10)) (hF_15_4 : (¬ nGG ft_ mz 5 15 44 (mkn_12, mvn_12, mbn_12, mpn_12) → mwn_15 = nE 5 15 (mkn_12, mvn_12, mbn_12, mpn_12))) (f_15_1_0 : nGG ft_ mz 5 15 44 (mkn_12, mvn_12, mbn_12, mpn_12)) (hR_15 : okR frn_15 cq 0 0 0) (Lb : lRb ft_ mz = (((mkn_15, mvn_15, mbn_15, mpn_15), m38 frn_15), 0)) (L0 : m38 frn_15 0 = nI cq) (e_19 : v_19 = ((nI cq) - 1)) (hF_20_0 : mpn_20 ≤ mz) (hF_20_2 : nU ft_ mz 0 v_19 44 (mkn_15, mvn_15, mbn_15, mpn_15) = (mkn_20, mvn_20, mbn_20, mpn_20)) (hF_20_3 : m38 frn_20 = nR 0 v_19 1 (mkn_15, mvn_15, mbn_15, mpn_15) (m38 frn_15)) (hF_20_4 : (¬ nGG ft_ mz 0 v_19 44 (mkn_15, mvn_15, mbn_15, mpn_15) → mwn_20 = nE 0 v_19 (mkn_15, mvn_15, mbn_15, mpn_15))) (f_20_1_0 : nGG ft_ mz 0 v_19 44 (mkn_15, mvn_15, mbn_15, mpn_15)) (hR_20 : okR frn_20 cq 0 0 0) (Lc : lRc ft_ mz = (((mkn_20, mvn_20, mbn_20, mpn_20), m38 frn_20), 0)) (hF_23_0 : mpn_23 ≤ mz) (hF_23_2 : nU ft_ mz 0 4 59 (mkn_20, mvn_20, mbn_20, mpn_20) = (mkn_23, mvn_23, mbn_23, mpn_23)) (hF_23_3 : m38 frn_23 = nR 0 4 2 (mkn_20, mvn_20, mbn_20, mpn_20) (m38 frn_20)) (hF_23_4 : (¬ nGG ft_ mz 0 4 59 (mkn_20, mvn_20, mbn_20, mpn_20) → mwn_23 = nE 0 4 (mkn_20, mvn_20, mbn_20, mpn_20))) (f_23_1_0 : nGG ft_ mz 0 4 59 (mkn_20, mvn_20, mbn_20, mpn_20)) (hR_23 : okR frn_23 cq 0 0 0) (Ld : lRd ft_ mz = (((mkn_23, mvn_23, mbn_23, mpn_23), m38 frn_23), 0)) (hF_26_0 : mpn_26 ≤ mz) (hF_26_2 : wS ft_ mz ((mkn_23, mvn_23, mbn_23, mpn_23), m38 frn_23) = ((mkn_26, mvn_26, mbn_26, mpn_26), m38 frn_26)) (hF_26_3 : (¬ wGG ft_ mz ((mkn_23, mvn_23, mbn_23, mpn_23), m38 frn_23) → mwn_26 = wE ft_ mz ((mkn_23, mvn_23, mbn_23, mpn_23), m38 frn_23))) (f_26_1_0 : wGG ft_ mz ((mkn_23, mvn_23, mbn_23, mpn_23), m38 frn_23)) (hR_26 : okR frn_26 cq (0 + 1) 0 0) (Le : lRe ft_ mz = (((mkn_26, mvn_26, mbn_26, mpn_26), m38 frn_26), 0)) (hnb_w_107 : w_107 ≤ mz) (hW6 : W_ ≤ 6) (hLw : wL ft_ mz (7 - W_) (((w_108, w_109, w_110, w_107), m38 w_112), 0) = wL ft_ mz 6 (lRe ft_ mz)) (c_198 : w_108 = 1) (c_235 : ¬ (w_109 = 119)) (LW : wL ft_ mz 6 (lRe ft_ mz) = (((w_108, w_109, w_110, w_107), m38 w_112), 0)) (hnb_w_244 : w_244 ≤ mz) (hK6 : K_ ≤ 6) (hLs : sL ft_ mz (7 - K_) (((w_245, w_246, w_247, w_244), m38 w_249), 0) = rR ft_ mz) (L4 : m38 w_249 4 = nI K_) (L5 : (nI K_ = 0 ↔ K_ = 0)) (c_265 : w_245 = 3) (c_269 : K_ = 0) (hF_270_0 : mpn_270 ≤ mz) (hF_270_2 : sS ft_ mz ((w_245, w_246, w_247, w_244), m38 w_249) = ((mkn_270, mvn_270, mbn_270, mpn_270), m38 frn_270)) (hF_270_3 : (¬ sGG ft_ mz ((w_245, w_246, w_247, w_244), m38 w_249) → mwn_270 = sE ft_ mz ((w_245, w_246, w_247, w_244), m38 w_249))) (f_270_0_0 : ¬ sGG ft_ mz ((w_245, w_246, w_247, w_244), m38 w_249)) (Lx : rR ft_ mz = (((mkn_270, mvn_270, mbn_270, mpn_270), m38 frn_270), sE ft_ mz ((w_245, w_246, w_247, w_244), m38 w_249))) (Ln : ¬ sE ft_ mz ((w_245, w_246, w_247, w_244), m38 w_249) = 0) : ¬ (rR ft_ mz).2 = 0 := by
  first
  | (rw [Lx]; exact Ln)
  | (rw [Lx]; done)
  | (intro q_; rw [Lx]; grind)
  | grind
theorem lf_X8_readLevel_59 {mz : Nat} {ft_ : Nat → Int32} {w_3 : Nat → Int32} {g_10 : Nat → Int32} {mkn_11 : Int32} {mvn_11 : Int32} {mbn_11 : Int32} {mpn_11 : Nat} {mkn_12 : Int32} {mvn_12 : Int32} {mbn_12 : Int32} {mpn_12 : Nat} {mwn_12 : Int32} {mkn_15 : Int32} {mvn_15 : Int32} {mbn_15 : Int32} {mpn_15 : Nat} {mwn_15 : Int32} {frn_15 : Nat → Int32} {cq : Nat} {v_19 : Int32} {mkn_20 : Int32} {mvn_20 : Int32} {mbn_20 : Int32} {mpn_20 : Nat} {mwn_20 : Int32} {frn_20 : Nat → Int32} {mkn_23 : Int32} {mvn_23 : Int32} {mbn_23 : Int32} {mpn_23 : Nat} {mwn_23 : Int32} {frn_23 : Nat → Int32} {mkn_26 : Int32} {mvn_26 : Int32} {mbn_26 : Int32} {mpn_26 : Nat} {mwn_26 : Int32} {frn_26 : Nat → Int32} {w_107 : Nat} {w_108 : Int32} {w_109 : Int32} {w_110 : Int32} {w_112 : Nat → Int32} {W_ : Nat} {w_244 : Nat} {w_245 : Int32} {w_246 : Int32} {w_247 : Int32} {w_249 : Nat → Int32} {K_ : Nat} {mkn_270 : Int32} {mvn_270 : Int32} {mbn_270 : Int32} {mpn_270 : Nat} {mwn_270 : Int32} {frn_270 : Nat → Int32} (hmz : mz ≤ 120) (hu_10 : g_10 = upd w_3 6 1) (Lr : m38 g_10 = r0) (hF_11_0 : mpn_11 ≤ mz) (hF_11_1 : nT ft_ mz 0 = (mkn_11, mvn_11, mbn_11, mpn_11)) (hF_12_0 : mpn_12 ≤ mz) (hF_12_1 : kU ft_ mz 109 (mkn_11, mvn_11, mbn_11, mpn_11) = (mkn_12, mvn_12, mbn_12, mpn_12)) (hF_12_2 : (¬ kG 109 (mkn_11, mvn_11, mbn_11, mpn_11) → mwn_12 = 1)) (f_12_1_0 : kG 109 (mkn_11, mvn_11, mbn_11, mpn_11)) (La : lRa ft_ mz = (((mkn_12, mvn_12, mbn_12, mpn_12), m38 g_10), 0)) (hF_15_0 : mpn_15 ≤ mz) (hF_15_2 : nU ft_ mz 5 15 44 (mkn_12, mvn_12, mbn_12, mpn_12) = (mkn_15, mvn_15, mbn_15, mpn_15)) (hF_15_3 : m38 frn_15 = nR 5 15 0 (mkn_12, mvn_12, mbn_12, mpn_12) (m38 g_10)) (hF_15_4 : (¬ nGG ft_ mz 5 15 44 (mkn_12, mvn_12, mbn_12, mpn_12) → mwn_15 = nE 5 15 (mkn_12, mvn_12, mbn_12, mpn_12))) (f_15_1_0 : nGG ft_ mz 5 15 44 (mkn_12, mvn_12, mbn_12, mpn_12)) (hR_15 : okR frn_15 cq 0 0 0) (Lb : lRb ft_ mz = (((mkn_15, mvn_15, mbn_15, mpn_15), m38 frn_15), 0)) (L0 : m38 frn_15 0 = nI cq) (e_19 : v_19 = ((nI cq) - 1)) (hF_20_0 : mpn_20 ≤ mz) (hF_20_2 : nU ft_ mz 0 v_19 44 (mkn_15, mvn_15, mbn_15, mpn_15) = (mkn_20, mvn_20, mbn_20, mpn_20)) (hF_20_3 : m38 frn_20 = nR 0 v_19 1 (mkn_15, mvn_15, mbn_15, mpn_15) (m38 frn_15)) (hF_20_4 : (¬ nGG ft_ mz 0 v_19 44 (mkn_15, mvn_15, mbn_15, mpn_15) → mwn_20 = nE 0 v_19 (mkn_15, mvn_15, mbn_15, mpn_15))) (f_20_1_0 : nGG ft_ mz 0 v_19 44 (mkn_15, mvn_15, mbn_15, mpn_15)) (hR_20 : okR frn_20 cq 0 0 0) (Lc : lRc ft_ mz = (((mkn_20, mvn_20, mbn_20, mpn_20), m38 frn_20), 0)) (hF_23_0 : mpn_23 ≤ mz) (hF_23_2 : nU ft_ mz 0 4 59 (mkn_20, mvn_20, mbn_20, mpn_20) = (mkn_23, mvn_23, mbn_23, mpn_23)) (hF_23_3 : m38 frn_23 = nR 0 4 2 (mkn_20, mvn_20, mbn_20, mpn_20) (m38 frn_20)) (hF_23_4 : (¬ nGG ft_ mz 0 4 59 (mkn_20, mvn_20, mbn_20, mpn_20) → mwn_23 = nE 0 4 (mkn_20, mvn_20, mbn_20, mpn_20))) (f_23_1_0 : nGG ft_ mz 0 4 59 (mkn_20, mvn_20, mbn_20, mpn_20)) (hR_23 : okR frn_23 cq 0 0 0) (Ld : lRd ft_ mz = (((mkn_23, mvn_23, mbn_23, mpn_23), m38 frn_23), 0)) (hF_26_0 : mpn_26 ≤ mz) (hF_26_2 : wS ft_ mz ((mkn_23, mvn_23, mbn_23, mpn_23), m38 frn_23) = ((mkn_26, mvn_26, mbn_26, mpn_26), m38 frn_26)) (hF_26_3 : (¬ wGG ft_ mz ((mkn_23, mvn_23, mbn_23, mpn_23), m38 frn_23) → mwn_26 = wE ft_ mz ((mkn_23, mvn_23, mbn_23, mpn_23), m38 frn_23))) (f_26_1_0 : wGG ft_ mz ((mkn_23, mvn_23, mbn_23, mpn_23), m38 frn_23)) (hR_26 : okR frn_26 cq (0 + 1) 0 0) (Le : lRe ft_ mz = (((mkn_26, mvn_26, mbn_26, mpn_26), m38 frn_26), 0)) (hnb_w_107 : w_107 ≤ mz) (hW6 : W_ ≤ 6) (hLw : wL ft_ mz (7 - W_) (((w_108, w_109, w_110, w_107), m38 w_112), 0) = wL ft_ mz 6 (lRe ft_ mz)) (c_198 : w_108 = 1) (c_235 : ¬ (w_109 = 119)) (LW : wL ft_ mz 6 (lRe ft_ mz) = (((w_108, w_109, w_110, w_107), m38 w_112), 0)) (hnb_w_244 : w_244 ≤ mz) (hK6 : K_ ≤ 6) (hLs : sL ft_ mz (7 - K_) (((w_245, w_246, w_247, w_244), m38 w_249), 0) = rR ft_ mz) (L4 : m38 w_249 4 = nI K_) (L5 : (nI K_ = 0 ↔ K_ = 0)) (c_265 : w_245 = 3) (c_269 : K_ = 0) (hF_270_0 : mpn_270 ≤ mz) (hF_270_2 : sS ft_ mz ((w_245, w_246, w_247, w_244), m38 w_249) = ((mkn_270, mvn_270, mbn_270, mpn_270), m38 frn_270)) (hF_270_3 : (¬ sGG ft_ mz ((w_245, w_246, w_247, w_244), m38 w_249) → mwn_270 = sE ft_ mz ((w_245, w_246, w_247, w_244), m38 w_249))) (f_270_1_0 : sGG ft_ mz ((w_245, w_246, w_247, w_244), m38 w_249)) (hR_270 : okR frn_270 cq W_ (K_ + 1) (K_ + 1)) : sL ft_ mz (7 - (K_ + 1)) (((mkn_270, mvn_270, mbn_270, mpn_270), m38 frn_270), 0) = rR ft_ mz := by
  rw [sL_go (by omega) (by exact ⟨rfl, by grind⟩)] at hLs
  rw [show 7 - (K_ + 1) = 7 - K_ - 1 by omega, ← hLs]
  refine congrArg _ ?_
  simp only [sR]
  grind
theorem lf_X8_readLevel_60 {mz : Nat} {ft_ : Nat → Int32} {w_3 : Nat → Int32} {g_10 : Nat → Int32} {mkn_11 : Int32} {mvn_11 : Int32} {mbn_11 : Int32} {mpn_11 : Nat} {mkn_12 : Int32} {mvn_12 : Int32} {mbn_12 : Int32} {mpn_12 : Nat} {mwn_12 : Int32} {mkn_15 : Int32} {mvn_15 : Int32} {mbn_15 : Int32} {mpn_15 : Nat} {mwn_15 : Int32} {frn_15 : Nat → Int32} {cq : Nat} {v_19 : Int32} {mkn_20 : Int32} {mvn_20 : Int32} {mbn_20 : Int32} {mpn_20 : Nat} {mwn_20 : Int32} {frn_20 : Nat → Int32} {mkn_23 : Int32} {mvn_23 : Int32} {mbn_23 : Int32} {mpn_23 : Nat} {mwn_23 : Int32} {frn_23 : Nat → Int32} {mkn_26 : Int32} {mvn_26 : Int32} {mbn_26 : Int32} {mpn_26 : Nat} {mwn_26 : Int32} {frn_26 : Nat → Int32} {w_107 : Nat} {w_108 : Int32} {w_109 : Int32} {w_110 : Int32} {w_112 : Nat → Int32} {W_ : Nat} {mkn_272 : Int32} {mvn_272 : Int32} {mbn_272 : Int32} {mpn_272 : Nat} {mwn_272 : Int32} {frn_272 : Nat → Int32} (hmz : mz ≤ 120) (hu_10 : g_10 = upd w_3 6 1) (Lr : m38 g_10 = r0) (hF_11_0 : mpn_11 ≤ mz) (hF_11_1 : nT ft_ mz 0 = (mkn_11, mvn_11, mbn_11, mpn_11)) (hF_12_0 : mpn_12 ≤ mz) (hF_12_1 : kU ft_ mz 109 (mkn_11, mvn_11, mbn_11, mpn_11) = (mkn_12, mvn_12, mbn_12, mpn_12)) (hF_12_2 : (¬ kG 109 (mkn_11, mvn_11, mbn_11, mpn_11) → mwn_12 = 1)) (f_12_1_0 : kG 109 (mkn_11, mvn_11, mbn_11, mpn_11)) (La : lRa ft_ mz = (((mkn_12, mvn_12, mbn_12, mpn_12), m38 g_10), 0)) (hF_15_0 : mpn_15 ≤ mz) (hF_15_2 : nU ft_ mz 5 15 44 (mkn_12, mvn_12, mbn_12, mpn_12) = (mkn_15, mvn_15, mbn_15, mpn_15)) (hF_15_3 : m38 frn_15 = nR 5 15 0 (mkn_12, mvn_12, mbn_12, mpn_12) (m38 g_10)) (hF_15_4 : (¬ nGG ft_ mz 5 15 44 (mkn_12, mvn_12, mbn_12, mpn_12) → mwn_15 = nE 5 15 (mkn_12, mvn_12, mbn_12, mpn_12))) (f_15_1_0 : nGG ft_ mz 5 15 44 (mkn_12, mvn_12, mbn_12, mpn_12)) (hR_15 : okR frn_15 cq 0 0 0) (Lb : lRb ft_ mz = (((mkn_15, mvn_15, mbn_15, mpn_15), m38 frn_15), 0)) (L0 : m38 frn_15 0 = nI cq) (e_19 : v_19 = ((nI cq) - 1)) (hF_20_0 : mpn_20 ≤ mz) (hF_20_2 : nU ft_ mz 0 v_19 44 (mkn_15, mvn_15, mbn_15, mpn_15) = (mkn_20, mvn_20, mbn_20, mpn_20)) (hF_20_3 : m38 frn_20 = nR 0 v_19 1 (mkn_15, mvn_15, mbn_15, mpn_15) (m38 frn_15)) (hF_20_4 : (¬ nGG ft_ mz 0 v_19 44 (mkn_15, mvn_15, mbn_15, mpn_15) → mwn_20 = nE 0 v_19 (mkn_15, mvn_15, mbn_15, mpn_15))) (f_20_1_0 : nGG ft_ mz 0 v_19 44 (mkn_15, mvn_15, mbn_15, mpn_15)) (hR_20 : okR frn_20 cq 0 0 0) (Lc : lRc ft_ mz = (((mkn_20, mvn_20, mbn_20, mpn_20), m38 frn_20), 0)) (hF_23_0 : mpn_23 ≤ mz) (hF_23_2 : nU ft_ mz 0 4 59 (mkn_20, mvn_20, mbn_20, mpn_20) = (mkn_23, mvn_23, mbn_23, mpn_23)) (hF_23_3 : m38 frn_23 = nR 0 4 2 (mkn_20, mvn_20, mbn_20, mpn_20) (m38 frn_20)) (hF_23_4 : (¬ nGG ft_ mz 0 4 59 (mkn_20, mvn_20, mbn_20, mpn_20) → mwn_23 = nE 0 4 (mkn_20, mvn_20, mbn_20, mpn_20))) (f_23_1_0 : nGG ft_ mz 0 4 59 (mkn_20, mvn_20, mbn_20, mpn_20)) (hR_23 : okR frn_23 cq 0 0 0) (Ld : lRd ft_ mz = (((mkn_23, mvn_23, mbn_23, mpn_23), m38 frn_23), 0)) (hF_26_0 : mpn_26 ≤ mz) (hF_26_2 : wS ft_ mz ((mkn_23, mvn_23, mbn_23, mpn_23), m38 frn_23) = ((mkn_26, mvn_26, mbn_26, mpn_26), m38 frn_26)) (hF_26_3 : (¬ wGG ft_ mz ((mkn_23, mvn_23, mbn_23, mpn_23), m38 frn_23) → mwn_26 = wE ft_ mz ((mkn_23, mvn_23, mbn_23, mpn_23), m38 frn_23))) (f_26_1_0 : wGG ft_ mz ((mkn_23, mvn_23, mbn_23, mpn_23), m38 frn_23)) (hR_26 : okR frn_26 cq (0 + 1) 0 0) (Le : lRe ft_ mz = (((mkn_26, mvn_26, mbn_26, mpn_26), m38 frn_26), 0)) (hnb_w_107 : w_107 ≤ mz) (hW6 : W_ ≤ 6) (hLw : wL ft_ mz (7 - W_) (((w_108, w_109, w_110, w_107), m38 w_112), 0) = wL ft_ mz 6 (lRe ft_ mz)) (c_198 : w_108 = 1) (c_235 : w_109 = 119) (hF_272_0 : mpn_272 ≤ mz) (hF_272_2 : wS ft_ mz ((w_108, w_109, w_110, w_107), m38 w_112) = ((mkn_272, mvn_272, mbn_272, mpn_272), m38 frn_272)) (hF_272_3 : (¬ wGG ft_ mz ((w_108, w_109, w_110, w_107), m38 w_112) → mwn_272 = wE ft_ mz ((w_108, w_109, w_110, w_107), m38 w_112))) (f_272_0_0 : ¬ wGG ft_ mz ((w_108, w_109, w_110, w_107), m38 w_112)) : rR ft_ mz = (((mkn_272, mvn_272, mbn_272, mpn_272), m38 frn_272), wE ft_ mz ((w_108, w_109, w_110, w_107), m38 w_112)) := by
  have h8 : wR ft_ mz ((w_108, w_109, w_110, w_107), m38 w_112) = (((mkn_272, mvn_272, mbn_272, mpn_272), m38 frn_272), wE ft_ mz ((w_108, w_109, w_110, w_107), m38 w_112)) := (by simp only [wR]; grind)
  have h7 : wL ft_ mz 6 (lRe ft_ mz) = (((mkn_272, mvn_272, mbn_272, mpn_272), m38 frn_272), wE ft_ mz ((w_108, w_109, w_110, w_107), m38 w_112)) := (by
    rw [← hLw, wL_go (by omega) (by exact ⟨rfl, by grind⟩)]
    show wL ft_ mz (7 - W_ - 1) (wR ft_ mz ((w_108, w_109, w_110, w_107), m38 w_112)) = _
    rw [h8, wL_stop (fun q => wE_nz _ _ _ q.1)])
  unfold rR
  rw [h7, sL_stop (fun q => wE_nz _ _ _ q.1)]
theorem lf_X8_readLevel_61 {mz : Nat} {ft_ : Nat → Int32} {w_3 : Nat → Int32} {g_10 : Nat → Int32} {mkn_11 : Int32} {mvn_11 : Int32} {mbn_11 : Int32} {mpn_11 : Nat} {mkn_12 : Int32} {mvn_12 : Int32} {mbn_12 : Int32} {mpn_12 : Nat} {mwn_12 : Int32} {mkn_15 : Int32} {mvn_15 : Int32} {mbn_15 : Int32} {mpn_15 : Nat} {mwn_15 : Int32} {frn_15 : Nat → Int32} {cq : Nat} {v_19 : Int32} {mkn_20 : Int32} {mvn_20 : Int32} {mbn_20 : Int32} {mpn_20 : Nat} {mwn_20 : Int32} {frn_20 : Nat → Int32} {mkn_23 : Int32} {mvn_23 : Int32} {mbn_23 : Int32} {mpn_23 : Nat} {mwn_23 : Int32} {frn_23 : Nat → Int32} {mkn_26 : Int32} {mvn_26 : Int32} {mbn_26 : Int32} {mpn_26 : Nat} {mwn_26 : Int32} {frn_26 : Nat → Int32} {w_107 : Nat} {w_108 : Int32} {w_109 : Int32} {w_110 : Int32} {w_112 : Nat → Int32} {W_ : Nat} {mkn_272 : Int32} {mvn_272 : Int32} {mbn_272 : Int32} {mpn_272 : Nat} {mwn_272 : Int32} {frn_272 : Nat → Int32} (hmz : mz ≤ 120) (hu_10 : g_10 = upd w_3 6 1) (Lr : m38 g_10 = r0) (hF_11_0 : mpn_11 ≤ mz) (hF_11_1 : nT ft_ mz 0 = (mkn_11, mvn_11, mbn_11, mpn_11)) (hF_12_0 : mpn_12 ≤ mz) (hF_12_1 : kU ft_ mz 109 (mkn_11, mvn_11, mbn_11, mpn_11) = (mkn_12, mvn_12, mbn_12, mpn_12)) (hF_12_2 : (¬ kG 109 (mkn_11, mvn_11, mbn_11, mpn_11) → mwn_12 = 1)) (f_12_1_0 : kG 109 (mkn_11, mvn_11, mbn_11, mpn_11)) (La : lRa ft_ mz = (((mkn_12, mvn_12, mbn_12, mpn_12), m38 g_10), 0)) (hF_15_0 : mpn_15 ≤ mz) (hF_15_2 : nU ft_ mz 5 15 44 (mkn_12, mvn_12, mbn_12, mpn_12) = (mkn_15, mvn_15, mbn_15, mpn_15)) (hF_15_3 : m38 frn_15 = nR 5 15 0 (mkn_12, mvn_12, mbn_12, mpn_12) (m38 g_10)) (hF_15_4 : (¬ nGG ft_ mz 5 15 44 (mkn_12, mvn_12, mbn_12, mpn_12) → mwn_15 = nE 5 15 (mkn_12, mvn_12, mbn_12, mpn_12))) (f_15_1_0 : nGG ft_ mz 5 15 44 (mkn_12, mvn_12, mbn_12, mpn_12)) (hR_15 : okR frn_15 cq 0 0 0) (Lb : lRb ft_ mz = (((mkn_15, mvn_15, mbn_15, mpn_15), m38 frn_15), 0)) (L0 : m38 frn_15 0 = nI cq) (e_19 : v_19 = ((nI cq) - 1)) (hF_20_0 : mpn_20 ≤ mz) (hF_20_2 : nU ft_ mz 0 v_19 44 (mkn_15, mvn_15, mbn_15, mpn_15) = (mkn_20, mvn_20, mbn_20, mpn_20)) (hF_20_3 : m38 frn_20 = nR 0 v_19 1 (mkn_15, mvn_15, mbn_15, mpn_15) (m38 frn_15)) (hF_20_4 : (¬ nGG ft_ mz 0 v_19 44 (mkn_15, mvn_15, mbn_15, mpn_15) → mwn_20 = nE 0 v_19 (mkn_15, mvn_15, mbn_15, mpn_15))) (f_20_1_0 : nGG ft_ mz 0 v_19 44 (mkn_15, mvn_15, mbn_15, mpn_15)) (hR_20 : okR frn_20 cq 0 0 0) (Lc : lRc ft_ mz = (((mkn_20, mvn_20, mbn_20, mpn_20), m38 frn_20), 0)) (hF_23_0 : mpn_23 ≤ mz) (hF_23_2 : nU ft_ mz 0 4 59 (mkn_20, mvn_20, mbn_20, mpn_20) = (mkn_23, mvn_23, mbn_23, mpn_23)) (hF_23_3 : m38 frn_23 = nR 0 4 2 (mkn_20, mvn_20, mbn_20, mpn_20) (m38 frn_20)) (hF_23_4 : (¬ nGG ft_ mz 0 4 59 (mkn_20, mvn_20, mbn_20, mpn_20) → mwn_23 = nE 0 4 (mkn_20, mvn_20, mbn_20, mpn_20))) (f_23_1_0 : nGG ft_ mz 0 4 59 (mkn_20, mvn_20, mbn_20, mpn_20)) (hR_23 : okR frn_23 cq 0 0 0) (Ld : lRd ft_ mz = (((mkn_23, mvn_23, mbn_23, mpn_23), m38 frn_23), 0)) (hF_26_0 : mpn_26 ≤ mz) (hF_26_2 : wS ft_ mz ((mkn_23, mvn_23, mbn_23, mpn_23), m38 frn_23) = ((mkn_26, mvn_26, mbn_26, mpn_26), m38 frn_26)) (hF_26_3 : (¬ wGG ft_ mz ((mkn_23, mvn_23, mbn_23, mpn_23), m38 frn_23) → mwn_26 = wE ft_ mz ((mkn_23, mvn_23, mbn_23, mpn_23), m38 frn_23))) (f_26_1_0 : wGG ft_ mz ((mkn_23, mvn_23, mbn_23, mpn_23), m38 frn_23)) (hR_26 : okR frn_26 cq (0 + 1) 0 0) (Le : lRe ft_ mz = (((mkn_26, mvn_26, mbn_26, mpn_26), m38 frn_26), 0)) (hnb_w_107 : w_107 ≤ mz) (hW6 : W_ ≤ 6) (hLw : wL ft_ mz (7 - W_) (((w_108, w_109, w_110, w_107), m38 w_112), 0) = wL ft_ mz 6 (lRe ft_ mz)) (c_198 : w_108 = 1) (c_235 : w_109 = 119) (hF_272_0 : mpn_272 ≤ mz) (hF_272_2 : wS ft_ mz ((w_108, w_109, w_110, w_107), m38 w_112) = ((mkn_272, mvn_272, mbn_272, mpn_272), m38 frn_272)) (hF_272_3 : (¬ wGG ft_ mz ((w_108, w_109, w_110, w_107), m38 w_112) → mwn_272 = wE ft_ mz ((w_108, w_109, w_110, w_107), m38 w_112))) (f_272_0_0 : ¬ wGG ft_ mz ((w_108, w_109, w_110, w_107), m38 w_112)) (Lx : rR ft_ mz = (((mkn_272, mvn_272, mbn_272, mpn_272), m38 frn_272), wE ft_ mz ((w_108, w_109, w_110, w_107), m38 w_112))) (Ln : ¬ wE ft_ mz ((w_108, w_109, w_110, w_107), m38 w_112) = 0) : (rR ft_ mz).1 = ((mkn_272, mvn_272, mbn_272, mpn_272), m38 frn_272) := by
  first
  | (rw [Lx]; exact Ln)
  | (rw [Lx]; done)
  | (intro q_; rw [Lx]; grind)
  | grind
theorem lf_X8_readLevel_62 {mz : Nat} {ft_ : Nat → Int32} {w_3 : Nat → Int32} {g_10 : Nat → Int32} {mkn_11 : Int32} {mvn_11 : Int32} {mbn_11 : Int32} {mpn_11 : Nat} {mkn_12 : Int32} {mvn_12 : Int32} {mbn_12 : Int32} {mpn_12 : Nat} {mwn_12 : Int32} {mkn_15 : Int32} {mvn_15 : Int32} {mbn_15 : Int32} {mpn_15 : Nat} {mwn_15 : Int32} {frn_15 : Nat → Int32} {cq : Nat} {v_19 : Int32} {mkn_20 : Int32} {mvn_20 : Int32} {mbn_20 : Int32} {mpn_20 : Nat} {mwn_20 : Int32} {frn_20 : Nat → Int32} {mkn_23 : Int32} {mvn_23 : Int32} {mbn_23 : Int32} {mpn_23 : Nat} {mwn_23 : Int32} {frn_23 : Nat → Int32} {mkn_26 : Int32} {mvn_26 : Int32} {mbn_26 : Int32} {mpn_26 : Nat} {mwn_26 : Int32} {frn_26 : Nat → Int32} {w_107 : Nat} {w_108 : Int32} {w_109 : Int32} {w_110 : Int32} {w_112 : Nat → Int32} {W_ : Nat} {mkn_272 : Int32} {mvn_272 : Int32} {mbn_272 : Int32} {mpn_272 : Nat} {mwn_272 : Int32} {frn_272 : Nat → Int32} (hmz : mz ≤ 120) (hu_10 : g_10 = upd w_3 6 1) (Lr : m38 g_10 = r0) (hF_11_0 : mpn_11 ≤ mz) (hF_11_1 : nT ft_ mz 0 = (mkn_11, mvn_11, mbn_11, mpn_11)) (hF_12_0 : mpn_12 ≤ mz) (hF_12_1 : kU ft_ mz 109 (mkn_11, mvn_11, mbn_11, mpn_11) = (mkn_12, mvn_12, mbn_12, mpn_12)) (hF_12_2 : (¬ kG 109 (mkn_11, mvn_11, mbn_11, mpn_11) → mwn_12 = 1)) (f_12_1_0 : kG 109 (mkn_11, mvn_11, mbn_11, mpn_11)) (La : lRa ft_ mz = (((mkn_12, mvn_12, mbn_12, mpn_12), m38 g_10), 0)) (hF_15_0 : mpn_15 ≤ mz) (hF_15_2 : nU ft_ mz 5 15 44 (mkn_12, mvn_12, mbn_12, mpn_12) = (mkn_15, mvn_15, mbn_15, mpn_15)) (hF_15_3 : m38 frn_15 = nR 5 15 0 (mkn_12, mvn_12, mbn_12, mpn_12) (m38 g_10)) (hF_15_4 : (¬ nGG ft_ mz 5 15 44 (mkn_12, mvn_12, mbn_12, mpn_12) → mwn_15 = nE 5 15 (mkn_12, mvn_12, mbn_12, mpn_12))) (f_15_1_0 : nGG ft_ mz 5 15 44 (mkn_12, mvn_12, mbn_12, mpn_12)) (hR_15 : okR frn_15 cq 0 0 0) (Lb : lRb ft_ mz = (((mkn_15, mvn_15, mbn_15, mpn_15), m38 frn_15), 0)) (L0 : m38 frn_15 0 = nI cq) (e_19 : v_19 = ((nI cq) - 1)) (hF_20_0 : mpn_20 ≤ mz) (hF_20_2 : nU ft_ mz 0 v_19 44 (mkn_15, mvn_15, mbn_15, mpn_15) = (mkn_20, mvn_20, mbn_20, mpn_20)) (hF_20_3 : m38 frn_20 = nR 0 v_19 1 (mkn_15, mvn_15, mbn_15, mpn_15) (m38 frn_15)) (hF_20_4 : (¬ nGG ft_ mz 0 v_19 44 (mkn_15, mvn_15, mbn_15, mpn_15) → mwn_20 = nE 0 v_19 (mkn_15, mvn_15, mbn_15, mpn_15))) (f_20_1_0 : nGG ft_ mz 0 v_19 44 (mkn_15, mvn_15, mbn_15, mpn_15)) (hR_20 : okR frn_20 cq 0 0 0) (Lc : lRc ft_ mz = (((mkn_20, mvn_20, mbn_20, mpn_20), m38 frn_20), 0)) (hF_23_0 : mpn_23 ≤ mz) (hF_23_2 : nU ft_ mz 0 4 59 (mkn_20, mvn_20, mbn_20, mpn_20) = (mkn_23, mvn_23, mbn_23, mpn_23)) (hF_23_3 : m38 frn_23 = nR 0 4 2 (mkn_20, mvn_20, mbn_20, mpn_20) (m38 frn_20)) (hF_23_4 : (¬ nGG ft_ mz 0 4 59 (mkn_20, mvn_20, mbn_20, mpn_20) → mwn_23 = nE 0 4 (mkn_20, mvn_20, mbn_20, mpn_20))) (f_23_1_0 : nGG ft_ mz 0 4 59 (mkn_20, mvn_20, mbn_20, mpn_20)) (hR_23 : okR frn_23 cq 0 0 0) (Ld : lRd ft_ mz = (((mkn_23, mvn_23, mbn_23, mpn_23), m38 frn_23), 0)) (hF_26_0 : mpn_26 ≤ mz) (hF_26_2 : wS ft_ mz ((mkn_23, mvn_23, mbn_23, mpn_23), m38 frn_23) = ((mkn_26, mvn_26, mbn_26, mpn_26), m38 frn_26)) (hF_26_3 : (¬ wGG ft_ mz ((mkn_23, mvn_23, mbn_23, mpn_23), m38 frn_23) → mwn_26 = wE ft_ mz ((mkn_23, mvn_23, mbn_23, mpn_23), m38 frn_23))) (f_26_1_0 : wGG ft_ mz ((mkn_23, mvn_23, mbn_23, mpn_23), m38 frn_23)) (hR_26 : okR frn_26 cq (0 + 1) 0 0) (Le : lRe ft_ mz = (((mkn_26, mvn_26, mbn_26, mpn_26), m38 frn_26), 0)) (hnb_w_107 : w_107 ≤ mz) (hW6 : W_ ≤ 6) (hLw : wL ft_ mz (7 - W_) (((w_108, w_109, w_110, w_107), m38 w_112), 0) = wL ft_ mz 6 (lRe ft_ mz)) (c_198 : w_108 = 1) (c_235 : w_109 = 119) (hF_272_0 : mpn_272 ≤ mz) (hF_272_2 : wS ft_ mz ((w_108, w_109, w_110, w_107), m38 w_112) = ((mkn_272, mvn_272, mbn_272, mpn_272), m38 frn_272)) (hF_272_3 : (¬ wGG ft_ mz ((w_108, w_109, w_110, w_107), m38 w_112) → mwn_272 = wE ft_ mz ((w_108, w_109, w_110, w_107), m38 w_112))) (f_272_0_0 : ¬ wGG ft_ mz ((w_108, w_109, w_110, w_107), m38 w_112)) (Lx : rR ft_ mz = (((mkn_272, mvn_272, mbn_272, mpn_272), m38 frn_272), wE ft_ mz ((w_108, w_109, w_110, w_107), m38 w_112))) (Ln : ¬ wE ft_ mz ((w_108, w_109, w_110, w_107), m38 w_112) = 0) : (¬ (rR ft_ mz).2 = 0 → mwn_272 = (rR ft_ mz).2) := by
  first
  | (rw [Lx]; exact Ln)
  | (rw [Lx]; done)
  | (intro q_; rw [Lx]; grind)
  | grind
theorem lf_X8_readLevel_63 {mz : Nat} {ft_ : Nat → Int32} {w_3 : Nat → Int32} {g_10 : Nat → Int32} {mkn_11 : Int32} {mvn_11 : Int32} {mbn_11 : Int32} {mpn_11 : Nat} {mkn_12 : Int32} {mvn_12 : Int32} {mbn_12 : Int32} {mpn_12 : Nat} {mwn_12 : Int32} {mkn_15 : Int32} {mvn_15 : Int32} {mbn_15 : Int32} {mpn_15 : Nat} {mwn_15 : Int32} {frn_15 : Nat → Int32} {cq : Nat} {v_19 : Int32} {mkn_20 : Int32} {mvn_20 : Int32} {mbn_20 : Int32} {mpn_20 : Nat} {mwn_20 : Int32} {frn_20 : Nat → Int32} {mkn_23 : Int32} {mvn_23 : Int32} {mbn_23 : Int32} {mpn_23 : Nat} {mwn_23 : Int32} {frn_23 : Nat → Int32} {mkn_26 : Int32} {mvn_26 : Int32} {mbn_26 : Int32} {mpn_26 : Nat} {mwn_26 : Int32} {frn_26 : Nat → Int32} {w_107 : Nat} {w_108 : Int32} {w_109 : Int32} {w_110 : Int32} {w_112 : Nat → Int32} {W_ : Nat} {mkn_272 : Int32} {mvn_272 : Int32} {mbn_272 : Int32} {mpn_272 : Nat} {mwn_272 : Int32} {frn_272 : Nat → Int32} (hmz : mz ≤ 120) (hu_10 : g_10 = upd w_3 6 1) (Lr : m38 g_10 = r0) (hF_11_0 : mpn_11 ≤ mz) (hF_11_1 : nT ft_ mz 0 = (mkn_11, mvn_11, mbn_11, mpn_11)) (hF_12_0 : mpn_12 ≤ mz) (hF_12_1 : kU ft_ mz 109 (mkn_11, mvn_11, mbn_11, mpn_11) = (mkn_12, mvn_12, mbn_12, mpn_12)) (hF_12_2 : (¬ kG 109 (mkn_11, mvn_11, mbn_11, mpn_11) → mwn_12 = 1)) (f_12_1_0 : kG 109 (mkn_11, mvn_11, mbn_11, mpn_11)) (La : lRa ft_ mz = (((mkn_12, mvn_12, mbn_12, mpn_12), m38 g_10), 0)) (hF_15_0 : mpn_15 ≤ mz) (hF_15_2 : nU ft_ mz 5 15 44 (mkn_12, mvn_12, mbn_12, mpn_12) = (mkn_15, mvn_15, mbn_15, mpn_15)) (hF_15_3 : m38 frn_15 = nR 5 15 0 (mkn_12, mvn_12, mbn_12, mpn_12) (m38 g_10)) (hF_15_4 : (¬ nGG ft_ mz 5 15 44 (mkn_12, mvn_12, mbn_12, mpn_12) → mwn_15 = nE 5 15 (mkn_12, mvn_12, mbn_12, mpn_12))) (f_15_1_0 : nGG ft_ mz 5 15 44 (mkn_12, mvn_12, mbn_12, mpn_12)) (hR_15 : okR frn_15 cq 0 0 0) (Lb : lRb ft_ mz = (((mkn_15, mvn_15, mbn_15, mpn_15), m38 frn_15), 0)) (L0 : m38 frn_15 0 = nI cq) (e_19 : v_19 = ((nI cq) - 1)) (hF_20_0 : mpn_20 ≤ mz) (hF_20_2 : nU ft_ mz 0 v_19 44 (mkn_15, mvn_15, mbn_15, mpn_15) = (mkn_20, mvn_20, mbn_20, mpn_20)) (hF_20_3 : m38 frn_20 = nR 0 v_19 1 (mkn_15, mvn_15, mbn_15, mpn_15) (m38 frn_15)) (hF_20_4 : (¬ nGG ft_ mz 0 v_19 44 (mkn_15, mvn_15, mbn_15, mpn_15) → mwn_20 = nE 0 v_19 (mkn_15, mvn_15, mbn_15, mpn_15))) (f_20_1_0 : nGG ft_ mz 0 v_19 44 (mkn_15, mvn_15, mbn_15, mpn_15)) (hR_20 : okR frn_20 cq 0 0 0) (Lc : lRc ft_ mz = (((mkn_20, mvn_20, mbn_20, mpn_20), m38 frn_20), 0)) (hF_23_0 : mpn_23 ≤ mz) (hF_23_2 : nU ft_ mz 0 4 59 (mkn_20, mvn_20, mbn_20, mpn_20) = (mkn_23, mvn_23, mbn_23, mpn_23)) (hF_23_3 : m38 frn_23 = nR 0 4 2 (mkn_20, mvn_20, mbn_20, mpn_20) (m38 frn_20)) (hF_23_4 : (¬ nGG ft_ mz 0 4 59 (mkn_20, mvn_20, mbn_20, mpn_20) → mwn_23 = nE 0 4 (mkn_20, mvn_20, mbn_20, mpn_20))) (f_23_1_0 : nGG ft_ mz 0 4 59 (mkn_20, mvn_20, mbn_20, mpn_20)) (hR_23 : okR frn_23 cq 0 0 0) (Ld : lRd ft_ mz = (((mkn_23, mvn_23, mbn_23, mpn_23), m38 frn_23), 0)) (hF_26_0 : mpn_26 ≤ mz) (hF_26_2 : wS ft_ mz ((mkn_23, mvn_23, mbn_23, mpn_23), m38 frn_23) = ((mkn_26, mvn_26, mbn_26, mpn_26), m38 frn_26)) (hF_26_3 : (¬ wGG ft_ mz ((mkn_23, mvn_23, mbn_23, mpn_23), m38 frn_23) → mwn_26 = wE ft_ mz ((mkn_23, mvn_23, mbn_23, mpn_23), m38 frn_23))) (f_26_1_0 : wGG ft_ mz ((mkn_23, mvn_23, mbn_23, mpn_23), m38 frn_23)) (hR_26 : okR frn_26 cq (0 + 1) 0 0) (Le : lRe ft_ mz = (((mkn_26, mvn_26, mbn_26, mpn_26), m38 frn_26), 0)) (hnb_w_107 : w_107 ≤ mz) (hW6 : W_ ≤ 6) (hLw : wL ft_ mz (7 - W_) (((w_108, w_109, w_110, w_107), m38 w_112), 0) = wL ft_ mz 6 (lRe ft_ mz)) (c_198 : w_108 = 1) (c_235 : w_109 = 119) (hF_272_0 : mpn_272 ≤ mz) (hF_272_2 : wS ft_ mz ((w_108, w_109, w_110, w_107), m38 w_112) = ((mkn_272, mvn_272, mbn_272, mpn_272), m38 frn_272)) (hF_272_3 : (¬ wGG ft_ mz ((w_108, w_109, w_110, w_107), m38 w_112) → mwn_272 = wE ft_ mz ((w_108, w_109, w_110, w_107), m38 w_112))) (f_272_0_0 : ¬ wGG ft_ mz ((w_108, w_109, w_110, w_107), m38 w_112)) (Lx : rR ft_ mz = (((mkn_272, mvn_272, mbn_272, mpn_272), m38 frn_272), wE ft_ mz ((w_108, w_109, w_110, w_107), m38 w_112))) (Ln : ¬ wE ft_ mz ((w_108, w_109, w_110, w_107), m38 w_112) = 0) : ¬ (rR ft_ mz).2 = 0 := by
  first
  | (rw [Lx]; exact Ln)
  | (rw [Lx]; done)
  | (intro q_; rw [Lx]; grind)
  | grind
theorem lf_X8_readLevel_64 {mz : Nat} {ft_ : Nat → Int32} {w_3 : Nat → Int32} {g_10 : Nat → Int32} {mkn_11 : Int32} {mvn_11 : Int32} {mbn_11 : Int32} {mpn_11 : Nat} {mkn_12 : Int32} {mvn_12 : Int32} {mbn_12 : Int32} {mpn_12 : Nat} {mwn_12 : Int32} {mkn_15 : Int32} {mvn_15 : Int32} {mbn_15 : Int32} {mpn_15 : Nat} {mwn_15 : Int32} {frn_15 : Nat → Int32} {cq : Nat} {v_19 : Int32} {mkn_20 : Int32} {mvn_20 : Int32} {mbn_20 : Int32} {mpn_20 : Nat} {mwn_20 : Int32} {frn_20 : Nat → Int32} {mkn_23 : Int32} {mvn_23 : Int32} {mbn_23 : Int32} {mpn_23 : Nat} {mwn_23 : Int32} {frn_23 : Nat → Int32} {mkn_26 : Int32} {mvn_26 : Int32} {mbn_26 : Int32} {mpn_26 : Nat} {mwn_26 : Int32} {frn_26 : Nat → Int32} {w_107 : Nat} {w_108 : Int32} {w_109 : Int32} {w_110 : Int32} {w_112 : Nat → Int32} {W_ : Nat} {mkn_272 : Int32} {mvn_272 : Int32} {mbn_272 : Int32} {mpn_272 : Nat} {mwn_272 : Int32} {frn_272 : Nat → Int32} (hmz : mz ≤ 120) (hu_10 : g_10 = upd w_3 6 1) (Lr : m38 g_10 = r0) (hF_11_0 : mpn_11 ≤ mz) (hF_11_1 : nT ft_ mz 0 = (mkn_11, mvn_11, mbn_11, mpn_11)) (hF_12_0 : mpn_12 ≤ mz) (hF_12_1 : kU ft_ mz 109 (mkn_11, mvn_11, mbn_11, mpn_11) = (mkn_12, mvn_12, mbn_12, mpn_12)) (hF_12_2 : (¬ kG 109 (mkn_11, mvn_11, mbn_11, mpn_11) → mwn_12 = 1)) (f_12_1_0 : kG 109 (mkn_11, mvn_11, mbn_11, mpn_11)) (La : lRa ft_ mz = (((mkn_12, mvn_12, mbn_12, mpn_12), m38 g_10), 0)) (hF_15_0 : mpn_15 ≤ mz) (hF_15_2 : nU ft_ mz 5 15 44 (mkn_12, mvn_12, mbn_12, mpn_12) = (mkn_15, mvn_15, mbn_15, mpn_15)) (hF_15_3 : m38 frn_15 = nR 5 15 0 (mkn_12, mvn_12, mbn_12, mpn_12) (m38 g_10)) (hF_15_4 : (¬ nGG ft_ mz 5 15 44 (mkn_12, mvn_12, mbn_12, mpn_12) → mwn_15 = nE 5 15 (mkn_12, mvn_12, mbn_12, mpn_12))) (f_15_1_0 : nGG ft_ mz 5 15 44 (mkn_12, mvn_12, mbn_12, mpn_12)) (hR_15 : okR frn_15 cq 0 0 0) (Lb : lRb ft_ mz = (((mkn_15, mvn_15, mbn_15, mpn_15), m38 frn_15), 0)) (L0 : m38 frn_15 0 = nI cq) (e_19 : v_19 = ((nI cq) - 1)) (hF_20_0 : mpn_20 ≤ mz) (hF_20_2 : nU ft_ mz 0 v_19 44 (mkn_15, mvn_15, mbn_15, mpn_15) = (mkn_20, mvn_20, mbn_20, mpn_20)) (hF_20_3 : m38 frn_20 = nR 0 v_19 1 (mkn_15, mvn_15, mbn_15, mpn_15) (m38 frn_15)) (hF_20_4 : (¬ nGG ft_ mz 0 v_19 44 (mkn_15, mvn_15, mbn_15, mpn_15) → mwn_20 = nE 0 v_19 (mkn_15, mvn_15, mbn_15, mpn_15))) (f_20_1_0 : nGG ft_ mz 0 v_19 44 (mkn_15, mvn_15, mbn_15, mpn_15)) (hR_20 : okR frn_20 cq 0 0 0) (Lc : lRc ft_ mz = (((mkn_20, mvn_20, mbn_20, mpn_20), m38 frn_20), 0)) (hF_23_0 : mpn_23 ≤ mz) (hF_23_2 : nU ft_ mz 0 4 59 (mkn_20, mvn_20, mbn_20, mpn_20) = (mkn_23, mvn_23, mbn_23, mpn_23)) (hF_23_3 : m38 frn_23 = nR 0 4 2 (mkn_20, mvn_20, mbn_20, mpn_20) (m38 frn_20)) (hF_23_4 : (¬ nGG ft_ mz 0 4 59 (mkn_20, mvn_20, mbn_20, mpn_20) → mwn_23 = nE 0 4 (mkn_20, mvn_20, mbn_20, mpn_20))) (f_23_1_0 : nGG ft_ mz 0 4 59 (mkn_20, mvn_20, mbn_20, mpn_20)) (hR_23 : okR frn_23 cq 0 0 0) (Ld : lRd ft_ mz = (((mkn_23, mvn_23, mbn_23, mpn_23), m38 frn_23), 0)) (hF_26_0 : mpn_26 ≤ mz) (hF_26_2 : wS ft_ mz ((mkn_23, mvn_23, mbn_23, mpn_23), m38 frn_23) = ((mkn_26, mvn_26, mbn_26, mpn_26), m38 frn_26)) (hF_26_3 : (¬ wGG ft_ mz ((mkn_23, mvn_23, mbn_23, mpn_23), m38 frn_23) → mwn_26 = wE ft_ mz ((mkn_23, mvn_23, mbn_23, mpn_23), m38 frn_23))) (f_26_1_0 : wGG ft_ mz ((mkn_23, mvn_23, mbn_23, mpn_23), m38 frn_23)) (hR_26 : okR frn_26 cq (0 + 1) 0 0) (Le : lRe ft_ mz = (((mkn_26, mvn_26, mbn_26, mpn_26), m38 frn_26), 0)) (hnb_w_107 : w_107 ≤ mz) (hW6 : W_ ≤ 6) (hLw : wL ft_ mz (7 - W_) (((w_108, w_109, w_110, w_107), m38 w_112), 0) = wL ft_ mz 6 (lRe ft_ mz)) (c_198 : w_108 = 1) (c_235 : w_109 = 119) (hF_272_0 : mpn_272 ≤ mz) (hF_272_2 : wS ft_ mz ((w_108, w_109, w_110, w_107), m38 w_112) = ((mkn_272, mvn_272, mbn_272, mpn_272), m38 frn_272)) (hF_272_3 : (¬ wGG ft_ mz ((w_108, w_109, w_110, w_107), m38 w_112) → mwn_272 = wE ft_ mz ((w_108, w_109, w_110, w_107), m38 w_112))) (f_272_1_0 : wGG ft_ mz ((w_108, w_109, w_110, w_107), m38 w_112)) (hR_272 : okR frn_272 cq (W_ + 1) 0 0) : wL ft_ mz (7 - (W_ + 1)) (((mkn_272, mvn_272, mbn_272, mpn_272), m38 frn_272), 0) = wL ft_ mz 6 (lRe ft_ mz) := by
  rw [wL_go (by omega) (by exact ⟨rfl, by grind⟩)] at hLw
  rw [show 7 - (W_ + 1) = 7 - W_ - 1 by omega, ← hLw]
  refine congrArg _ ?_
  simp only [wR]
  grind
set_option maxHeartbeats 4000000 in
set_option maxRecDepth 100000 in
theorem r_X8_readLevel (l : Launch) (dC : Nat → ClassId) (dI : Nat → Nat → Nat) (cI cZ cL cJ : ClassId) (sz : Nat) (mo : Nat) (m_la : Nat) (m_sz : Nat) (m_it : Nat) (m_st : Nat) (m_mv : Nat) (m_tp : Nat) (m_rd : Nat) (m_ac : Nat) (m_as : Nat) (m_wo : Nat) (m_ik : Nat) (m_ke : Nat) (m_tr : Nat) (ms : Int32) (mt : Int32) (ml : Int32) (mk : Int32) (mv : Int32) (mb : Int32) (mw : Int32) (mz : Nat) (mp : Nat) (ma : Nat) (mx : Nat) (ft_ : Nat → Int32) (fr : Nat → Int32) (hmz : mz ≤ 120) : Met l yX8_readLevel wsX8_readLevel ({ frames := 5, cells := 0, slots := 0, locals := 112 }) (va_Pc [.ref mo] (fun U => U.heap.size = sz ∧ va_P (dC, dI) vwCl [(xo_8_rrriirrriiiiiiirrirrrrri mo m_la m_sz m_it ms mt m_st m_mv m_tp (nI mz) ml (nI mp) mk mv mb mw m_rd m_ac (nI ma) m_as m_wo m_ik m_ke m_tr (nI mx)), (xI m_tp cI 120 ft_), (xI m_rd cI 38 fr)] U.heap ∧ va_K (dC, dI) vwCl [(cI, .int), (cZ, .boolean), (cL, .object RX3), (cJ, .array .int)] U ∧ va_D (fun _ => True) [(xo_8_rrriirrriiiiiiirrirrrrri mo m_la m_sz m_it ms mt m_st m_mv m_tp (nI mz) ml (nI mp) mk mv mb mw m_rd m_ac (nI ma) m_as m_wo m_ik m_ke m_tr (nI mx)), (xI m_tp cI 120 ft_), (xI m_rd cI 38 fr)])) (va_Qi (fun r (u : Int32) => r = u ∧ ((r = 0 ∧ ¬ (rR ft_ mz).2 = 0) ∨ (r = 1 ∧ (rR ft_ mz).2 = 0))) (fun (u : Int32) t => ∃ (mkn : Int32) (mvn : Int32) (mbn : Int32) (mpn : Nat) (mwn : Int32) (frn : Nat → Int32) (wn : Nat) (kn : Nat), va_P (dC, dI) vwCl [(xo_8_rrriirrriiiiiiirrirrrrri mo m_la m_sz m_it ms mt m_st m_mv m_tp (nI mz) ml (nI mpn) mkn mvn mbn mwn m_rd m_ac (nI ma) m_as m_wo m_ik m_ke m_tr (nI mx)), (xI m_tp cI 120 ft_), (xI m_rd cI 38 frn)] t.heap ∧ va_D (va_A [(xo_8_rrriirrriiiiiiirrirrrrri mo m_la m_sz m_it ms mt m_st m_mv m_tp (nI mz) ml (nI mp) mk mv mb mw m_rd m_ac (nI ma) m_as m_wo m_ik m_ke m_tr (nI mx)), (xI m_tp cI 120 ft_), (xI m_rd cI 38 fr)] sz) [(xo_8_rrriirrriiiiiiirrirrrrri mo m_la m_sz m_it ms mt m_st m_mv m_tp (nI mz) ml (nI mpn) mkn mvn mbn mwn m_rd m_ac (nI ma) m_as m_wo m_ik m_ke m_tr (nI mx)), (xI m_tp cI 120 ft_), (xI m_rd cI 38 frn)] ∧ mpn ≤ mz ∧ (u = 1 → okM frn wn kn 0 ∧ 1 ≤ kn) ∧ (rR ft_ mz).1 = ((mkn, mvn, mbn, mpn), m38 frn) ∧ (¬ (rR ft_ mz).2 = 0 → mwn = (rR ft_ mz).2)) (va_A [(xo_8_rrriirrriiiiiiirrirrrrri mo m_la m_sz m_it ms mt m_st m_mv m_tp (nI mz) ml (nI mp) mk mv mb mw m_rd m_ac (nI ma) m_as m_wo m_ik m_ke m_tr (nI mx)), (xI m_tp cI 120 ft_), (xI m_rd cI 38 fr)] sz)) 0 0 (va_A [(xo_8_rrriirrriiiiiiirrirrrrri mo m_la m_sz m_it ms mt m_st m_mv m_tp (nI mz) ml (nI mp) mk mv mb mw m_rd m_ac (nI ma) m_as m_wo m_ik m_ke m_tr (nI mx)), (xI m_tp cI 120 ft_), (xI m_rd cI 38 fr)] sz) := by
  refine Met.ofW (cc := cX8_readLevel) (maxL := 2) (ret := (some .boolean)) (by decide) rfl ?_
  intro p e s m args below meth c s₁ B hml hv
  obtain ⟨rfl, hsz, hP, hK, hD0⟩ := hv
  have hx := B.exec
  have hb := B.bytes
  have hr := B.returns
  have hts := atoms_spec (ws := wsX8_readLevel) B.pre
  have hown : s.vm.findClass RX8 = some m.cls := findClass_of_methodNamed B.named
  have hlocks := B.notSynchronized
  subst hsz
  have hD := hD0.self (sz := s.heap.size)
  generalize hAe : va_A [(xo_8_rrriirrriiiiiiirrirrrrri mo m_la m_sz m_it ms mt m_st m_mv m_tp (nI mz) ml (nI mp) mk mv mb mw m_rd m_ac (nI ma) m_as m_wo m_ik m_ke m_tr (nI mx)), (xI m_tp cI 120 ft_), (xI m_rd cI 38 fr)] s.heap.size = A at hD ⊢
  have hA : ∀ q : Nat, s.heap.size ≤ q → A q := fun q h => by rw [← hAe]; exact Or.inr h
  have hS : va_S A s.heap s.heap [] := va_S.rf
  have hP : va_P (dC, dI) vwCl [(xo_8_rrriirrriiiiiiirrirrrrri mo m_la m_sz m_it ms mt m_st m_mv m_tp (nI mz) ml (nI mp) mk mv mb mw m_rd m_ac (nI ma) m_as m_wo m_ik m_ke m_tr (nI mx)), (xI m_tp cI 120 ft_), (xI m_rd cI 38 fr)] s.heap := hP
  have hl := lv_entry ([.ref mo]) (n := 2) (Nat.le_of_ble_eq_true rfl)
  rw [lg_entry_eq]
  generalize (lg_sl ([.ref mo]) ++ List.replicate (2 - (lg_sl ([.ref mo])).length) Slot.unset).toArray = ls at hl ⊢
  have hl : lv_has ls 2 [(0, .ref mo)] := hl
  refine lv_aload_n hx hb dX8_readLevel_0 rfl (lv_at hl 0 rfl) ?_
  refine lv_iconst (v := 0) hx hb dX8_readLevel_1 (by decide) ?_
  refine va_put (D := (dC, dI)) (ci := 8) (v := .int 0) (ty := .int) (C := RX8) (T := TX8) (N := 24) hx hb hts i_X8_readLevel_X8 tyX8 tyX8_ok nmX8 hown hK hP hD hS 0 rfl rfl 10 (by decide) (hts _ mx_X8_readLevel_1) (fun _ h9 => h9) rfl (by decide +kernel) rfl rfl (Nat.le_of_ble_eq_true rfl) dX8_readLevel_2 (fun H locs hP hD hS => ?_)
  have hP : va_P (dC, dI) vwCl [(xo_8_rrriirrriiiiiiirrirrrrri mo m_la m_sz m_it ms mt m_st m_mv m_tp (nI mz) ml 0 mk mv mb mw m_rd m_ac (nI ma) m_as m_wo m_ik m_ke m_tr (nI mx)), (xI m_tp cI 120 ft_), (xI m_rd cI 38 fr)] H := hP
  have hD := dto hP hD
  refine lv_iconst (v := 0) hx hb dX8_readLevel_5 (by decide) ?_
  refine lv_istore_n (lv' := [(1, .int 0), (0, .ref mo)]) hx hb dX8_readLevel_6 rfl hl (by decide) rfl (fun ls hl => ?_)
  refine lp_go (σ := (Nat → Int32)) (fun ii (st : (Nat → Int32)) H locs ls => match st with | w_3 => lv_has ls 2 [(1, .int (nI ii)), (0, .ref mo)] ∧ va_P (dC, dI) vwCl [(xo_8_rrriirrriiiiiiirrirrrrri mo m_la m_sz m_it ms mt m_st m_mv m_tp (nI mz) ml 0 mk mv mb mw m_rd m_ac (nI ma) m_as m_wo m_ik m_ke m_tr (nI mx)), (xI m_tp cI 120 ft_), (xI m_rd cI 38 w_3)] H ∧ va_D A [(xo_8_rrriirrriiiiiiirrirrrrri mo m_la m_sz m_it ms mt m_st m_mv m_tp (nI mz) ml 0 mk mv mb mw m_rd m_ac (nI ma) m_as m_wo m_ik m_ke m_tr (nI mx)), (xI m_tp cI 120 ft_), (xI m_rd cI 38 w_3)] ∧ va_S A s.heap H locs ∧ (∀ j : Nat, j < ii → w_3 j = 0)) 38 ?_ ?_ 0 (by omega) (fr) ⟨lv_sub hl [0, 1] rfl, hP.sub (ws' := [(xo_8_rrriirrriiiiiiirrirrrrri mo m_la m_sz m_it ms mt m_st m_mv m_tp (nI mz) ml 0 mk mv mb mw m_rd m_ac (nI ma) m_as m_wo m_ik m_ke m_tr (nI mx)), (xI m_tp cI 120 ft_), (xI m_rd cI 38 fr)]) [0, 1, 2] rfl, hD.sub (ws' := [(xo_8_rrriirrriiiiiiirrirrrrri mo m_la m_sz m_it ms mt m_st m_mv m_tp (nI mz) ml 0 mk mv mb mw m_rd m_ac (nI ma) m_as m_wo m_ik m_ke m_tr (nI mx)), (xI m_tp cI 120 ft_), (xI m_rd cI 38 fr)]) [0, 1, 2] (by decide +kernel) rfl, hS, (fun j h_ => absurd h_ (Nat.not_lt_zero j))⟩
  · rintro ii w_3 H locs ls hii ⟨hl, hP, hD, hS, haf_0⟩ ih
    refine lv_iload_n hx hb dX8_readLevel_7 rfl (lv_at hl 0 rfl) ?_
    refine lv_bipush (v := 38) hx hb dX8_readLevel_8 (by decide) ?_
    refine lv_icmp_ge (tgt := 26) hx hb dX8_readLevel_10 (by decide) (fun c_ => absurd c_ (fun q_ => absurd ((nI_leI (a := 38) (b := ii) (by omega) (by omega)).mp q_) (by omega))) (fun _ => ?_)
    refine lv_aload_n hx hb dX8_readLevel_13 rfl (lv_at hl 1 rfl) ?_
    refine va_get (D := (dC, dI)) (ci := 8) (v := .ref m_rd) (C := RX8) (T := TX8) (N := 24) hx hb hts i_X8_readLevel_X8 hown hK hP 0 rfl rfl 15 (by decide) (hts _ mx_X8_readLevel_2) (fun _ h9 => h9) rfl dX8_readLevel_14 ?_
    refine lv_iload_n hx hb dX8_readLevel_17 rfl (lv_at hl 0 rfl) ?_
    refine lv_iconst (v := 0) hx hb dX8_readLevel_18 (by decide) ?_
    refine va_iast hx hb hK hP hD hS 2 0 rfl rfl (vp_in_nI (by omega) (by omega)) dX8_readLevel_19 (fun H locs hP hD hS => ?_)
    generalize hg_8 : upd w_3 ((nI ii) : Int32).toNatClampNeg 0 = g_8 at hP hD
    have hu_8 : g_8 = upd w_3 ii 0 := (by rw [← hg_8, nI_clamp (by omega)])
    have hP : va_P (dC, dI) vwCl [(xo_8_rrriirrriiiiiiirrirrrrri mo m_la m_sz m_it ms mt m_st m_mv m_tp (nI mz) ml 0 mk mv mb mw m_rd m_ac (nI ma) m_as m_wo m_ik m_ke m_tr (nI mx)), (xI m_tp cI 120 ft_), (xI m_rd cI 38 g_8)] H := hP
    have hD := dto hP hD
    refine lv_iinc (v := (nI (ii + 1))) (lv' := [(1, .int (nI (ii + 1))), (0, .ref mo)]) hx hb dX8_readLevel_20 hl (k := 0) rfl (nI_add ii 1) (by decide) rfl (fun ls hl => ?_)
    refine lv_goto (tgt := 7) hx hb dX8_readLevel_23 (by decide) ?_
    exact ih (g_8) _ _ _ ⟨lv_sub hl [0, 1] rfl, hP.sub (ws' := [(xo_8_rrriirrriiiiiiirrirrrrri mo m_la m_sz m_it ms mt m_st m_mv m_tp (nI mz) ml 0 mk mv mb mw m_rd m_ac (nI ma) m_as m_wo m_ik m_ke m_tr (nI mx)), (xI m_tp cI 120 ft_), (xI m_rd cI 38 g_8)]) [0, 1, 2] rfl, hD.sub (ws' := [(xo_8_rrriirrriiiiiiirrirrrrri mo m_la m_sz m_it ms mt m_st m_mv m_tp (nI mz) ml 0 mk mv mb mw m_rd m_ac (nI ma) m_as m_wo m_ik m_ke m_tr (nI mx)), (xI m_tp cI 120 ft_), (xI m_rd cI 38 g_8)]) [0, 1, 2] (by decide +kernel) rfl, hS, (fl0 haf_0 (by omega) hg_8)⟩
  · rintro w_3 H locs ls ⟨hl, hP, hD, hS, haf_0⟩
    refine lv_iload_n hx hb dX8_readLevel_7 rfl (lv_at hl 0 rfl) ?_
    refine lv_bipush (v := 38) hx hb dX8_readLevel_8 (by decide) ?_
    refine lv_icmp_ge (tgt := 26) hx hb dX8_readLevel_10 (by decide) (fun _ => ?_) (fun c_ => absurd ((nI_leI (a := 38) (b := 38) (by omega) (by omega)).mpr (by omega)) c_)
    refine lv_aload_n hx hb dX8_readLevel_26 rfl (lv_at hl 1 rfl) ?_
    refine va_get (D := (dC, dI)) (ci := 8) (v := .ref m_rd) (C := RX8) (T := TX8) (N := 24) hx hb hts i_X8_readLevel_X8 hown hK hP 0 rfl rfl 15 (by decide) (hts _ mx_X8_readLevel_2) (fun _ h9 => h9) rfl dX8_readLevel_27 ?_
    refine lv_bipush (v := 6) hx hb dX8_readLevel_30 (by decide) ?_
    refine lv_iconst (v := 1) hx hb dX8_readLevel_32 (by decide) ?_
    refine va_iast hx hb hK hP hD hS 2 0 rfl rfl (by unfold vp_in; decide) dX8_readLevel_33 (fun H locs hP hD hS => ?_)
    generalize hg_10 : upd w_3 (6 : Int32).toNatClampNeg 1 = g_10 at hP hD
    have hu_10 : g_10 = upd w_3 6 1 := hg_10.symm
    have hR_10 := okR_init haf_0 hg_10
    have hP : va_P (dC, dI) vwCl [(xo_8_rrriirrriiiiiiirrirrrrri mo m_la m_sz m_it ms mt m_st m_mv m_tp (nI mz) ml 0 mk mv mb mw m_rd m_ac (nI ma) m_as m_wo m_ik m_ke m_tr (nI mx)), (xI m_tp cI 120 ft_), (xI m_rd cI 38 g_10)] H := hP
    have hD := dto hP hD
    have Lr : m38 g_10 = r0 := (lf_X8_readLevel_1 hmz haf_0 hu_10)
    refine lv_aload_n hx hb dX8_readLevel_34 rfl (lv_at hl 1 rfl) ?_
    have hc_11 := cutW (wc := [(xo_8_rrriirrriiiiiiirrirrrrri mo m_la m_sz m_it ms mt m_st m_mv m_tp (nI mz) ml (nI 0) mk mv mb mw m_rd m_ac (nI ma) m_as m_wo m_ik m_ke m_tr (nI mx)), (xI m_tp cI 120 ft_)]) hP hD hS hA [0, 1] (by decide +kernel) rfl
    refine va_callv (va_runV (As := []) (rest := []) ⟨hx, hb, hml, hown, hts⟩ (r_X8_nextToken l dC dI cI cZ cL cJ H.size mo m_la m_sz m_it m_st m_mv m_tp m_rd m_ac m_as m_wo m_ik m_ke m_tr ms mt ml mk mv mb mw mz 0 ma mx ft_ (by omega) (hmz)) (cwV 0 hts gX8_readLevel_X8_nextToken rfl rfl rfl (by decide +kernel) ⟨Nat.le_of_ble_eq_true rfl, Nat.le_of_ble_eq_true rfl⟩) (pvW 8 0 hK hP rfl rfl hc_11) rfl rfl hl.1 rfl (lv_room (Nat.le_of_ble_eq_true rfl)) dX8_readLevel_35 ⟨Nat.le_of_ble_eq_true rfl, Nat.le_of_ble_eq_true rfl⟩) hS (fun q _ h => hc_11.2.2 q h) hc_11.2.2 (fun u_11 t_11 H1 locs ht hvm h_11 hB hz1 hk1 hS => ?_)
    refine xl_4_4 hB (fun mkn_11 mvn_11 mbn_11 mpn_11 hP1 hD1 hF_11_0 hF_11_1 => ?_)
    clear hB
    rw [ht] at hP1
    obtain ⟨hP, hD⟩ := va_join (wr := [(xI m_rd cI 38 g_10)]) (w1 := [(xo_8_rrriirrriiiiiiirrirrrrri mo m_la m_sz m_it ms mt m_st m_mv m_tp (nI mz) ml (nI mpn_11) mkn_11 mvn_11 mbn_11 mw m_rd m_ac (nI ma) m_as m_wo m_ik m_ke m_tr (nI mx)), (xI m_tp cI 120 ft_)]) hP hD [0, 1] [2] rfl rfl (by decide +kernel) (by decide +kernel) hk1 hc_11.2.2 hP1 hD1
    generalize H1 = H at hP hS ⊢
    have hP : va_P (dC, dI) vwCl [(xI m_rd cI 38 g_10), (xo_8_rrriirrriiiiiiirrirrrrri mo m_la m_sz m_it ms mt m_st m_mv m_tp (nI mz) ml (nI mpn_11) mkn_11 mvn_11 mbn_11 mw m_rd m_ac (nI ma) m_as m_wo m_ik m_ke m_tr (nI mx)), (xI m_tp cI 120 ft_)] H := hP
    have hD := dto hP hD
    refine lv_aload_n hx hb dX8_readLevel_38 rfl (lv_at hl 1 rfl) ?_
    refine lv_bipush (v := 109) hx hb dX8_readLevel_39 (by decide) ?_
    have hc_12 := cutW (wc := [(xo_8_rrriirrriiiiiiirrirrrrri mo m_la m_sz m_it ms mt m_st m_mv m_tp (nI mz) ml (nI mpn_11) mkn_11 mvn_11 mbn_11 mw m_rd m_ac (nI ma) m_as m_wo m_ik m_ke m_tr (nI mx)), (xI m_tp cI 120 ft_)]) hP hD hS hA [1, 2] (by decide +kernel) rfl
    refine va_calli (va_runV (As := [.int 109]) (rest := []) ⟨hx, hb, hml, hown, hts⟩ (r_X8_takes l dC dI cI cZ cL cJ H.size mo m_la m_sz m_it m_st m_mv m_tp m_rd m_ac m_as m_wo m_ik m_ke m_tr ms mt ml mkn_11 mvn_11 mbn_11 mw mz mpn_11 ma mx ft_ 109 (by omega) (hmz)) (cwV 1 hts gX8_readLevel_X8_takes rfl rfl rfl (by decide +kernel) ⟨Nat.le_of_ble_eq_true rfl, Nat.le_of_ble_eq_true rfl⟩) (pvW 8 1 hK hP rfl rfl hc_12) rfl rfl hl.1 rfl (lv_room (Nat.le_of_ble_eq_true rfl)) dX8_readLevel_41 ⟨Nat.le_of_ble_eq_true rfl, Nat.le_of_ble_eq_true rfl⟩) hS (fun q _ h => hc_12.2.2 q h) hc_12.2.2 (fun r_12 u_12 t_12 H1 locs ht hvm h_12 hB hz1 hk1 hS => ?_)
    refine xl_5_5 hB (fun mkn_12 mvn_12 mbn_12 mpn_12 mwn_12 hP1 hD1 hF_12_0 hF_12_1 hF_12_2 => ?_)
    clear hB
    rw [ht] at hP1
    obtain ⟨hP, hD⟩ := va_join (wr := [(xI m_rd cI 38 g_10)]) (w1 := [(xo_8_rrriirrriiiiiiirrirrrrri mo m_la m_sz m_it ms mt m_st m_mv m_tp (nI mz) ml (nI mpn_12) mkn_12 mvn_12 mbn_12 mwn_12 m_rd m_ac (nI ma) m_as m_wo m_ik m_ke m_tr (nI mx)), (xI m_tp cI 120 ft_)]) hP hD [1, 2] [0] rfl rfl (by decide +kernel) (by decide +kernel) hk1 hc_12.2.2 hP1 hD1
    generalize H1 = H at hP hS ⊢
    have hP : va_P (dC, dI) vwCl [(xI m_rd cI 38 g_10), (xo_8_rrriirrriiiiiiirrirrrrri mo m_la m_sz m_it ms mt m_st m_mv m_tp (nI mz) ml (nI mpn_12) mkn_12 mvn_12 mbn_12 mwn_12 m_rd m_ac (nI ma) m_as m_wo m_ik m_ke m_tr (nI mx)), (xI m_tp cI 120 ft_)] H := hP
    have hD := dto hP hD
    rcases h_12 with ⟨h_12, f_12_0_0⟩ | ⟨h_12, f_12_1_0⟩
    · subst h_12
      have Lx : rR ft_ mz = (((mkn_12, mvn_12, mbn_12, mpn_12), m38 g_10), 1) := (lf_X8_readLevel_2 hmz haf_0 hu_10 Lr hF_11_0 hF_11_1 hF_12_0 hF_12_1 hF_12_2 f_12_0_0)
      have Ln : ¬ (1 : Int32) = 0 := by decide
      refine lv_if_eq (tgt := 98) hx hb dX8_readLevel_44 (by decide) (fun _ => ?_) (fun c_ => absurd (by decide) c_)
      refine lv_iconst (v := 0) hx hb dX8_readLevel_98 (by decide) ?_
      have hX9 := cut2 (wc := [(xo_8_rrriirrriiiiiiirrirrrrri mo m_la m_sz m_it ms mt m_st m_mv m_tp (nI mz) ml (nI mpn_12) mkn_12 mvn_12 mbn_12 mwn_12 m_rd m_ac (nI ma) m_as m_wo m_ik m_ke m_tr (nI mx)), (xI m_tp cI 120 ft_), (xI m_rd cI 38 g_10)]) hP hD [1, 2, 0] (by decide +kernel) rfl
      exact W.zret (v := 0) hx hb hr (by decide) (fun t ht hW => ⟨⟨0, 0, rfl, ⟨rfl, Or.inl (⟨rfl, (lf_X8_readLevel_5 hmz haf_0 hu_10 Lr hF_11_0 hF_11_1 hF_12_0 hF_12_1 hF_12_2 f_12_0_0 Lx Ln)⟩)⟩, ⟨mkn_12, mvn_12, mbn_12, mpn_12, mwn_12, g_10, 0, 0, va_Ht ht hX9.1, hX9.2, (by omega), (fun h_ => absurd h_ (by decide)), (lf_X8_readLevel_3 hmz haf_0 hu_10 Lr hF_11_0 hF_11_1 hF_12_0 hF_12_1 hF_12_2 f_12_0_0 Lx Ln), (lf_X8_readLevel_4 hmz haf_0 hu_10 Lr hF_11_0 hF_11_1 hF_12_0 hF_12_1 hF_12_2 f_12_0_0 Lx Ln)⟩⟩, hS.F ht⟩) hS.2.2 dX8_readLevel_99
    · subst h_12
      have La : lRa ft_ mz = (((mkn_12, mvn_12, mbn_12, mpn_12), m38 g_10), 0) := (lf_X8_readLevel_6 hmz haf_0 hu_10 Lr hF_11_0 hF_11_1 hF_12_0 hF_12_1 hF_12_2 f_12_1_0)
      refine lv_if_eq (tgt := 98) hx hb dX8_readLevel_44 (by decide) (fun c_ => absurd c_ (by decide)) (fun _ => ?_)
      refine lv_aload_n hx hb dX8_readLevel_47 rfl (lv_at hl 1 rfl) ?_
      refine lv_iconst (v := 5) hx hb dX8_readLevel_48 (by decide) ?_
      refine lv_bipush (v := 15) hx hb dX8_readLevel_49 (by decide) ?_
      refine lv_iconst (v := 0) hx hb dX8_readLevel_51 (by decide) ?_
      refine lv_bipush (v := 44) hx hb dX8_readLevel_52 (by decide) ?_
      have hc_15 := cutW (wc := [(xo_8_rrriirrriiiiiiirrirrrrri mo m_la m_sz m_it ms mt m_st m_mv m_tp (nI mz) ml (nI mpn_12) mkn_12 mvn_12 mbn_12 mwn_12 m_rd m_ac (nI ma) m_as m_wo m_ik m_ke m_tr (nI mx)), (xI m_tp cI 120 ft_), (xI m_rd cI 38 g_10)]) hP hD hS hA [1, 2, 0] (by decide +kernel) rfl
      refine va_calli (va_runV (As := [.int 5, .int 15, .int 0, .int 44]) (rest := []) ⟨hx, hb, hml, hown, hts⟩ (r_X8_takesNumber l dC dI cI cZ cL cJ H.size mo m_la m_sz m_it m_st m_mv m_tp m_rd m_ac m_as m_wo m_ik m_ke m_tr ms mt ml mkn_12 mvn_12 mbn_12 mwn_12 mz mpn_12 ma mx ft_ g_10 5 15 0 44 (by omega) (hmz) (by omega)) (cwV 4 hts gX8_readLevel_X8_takesNumber rfl rfl rfl (by decide +kernel) ⟨Nat.le_of_ble_eq_true rfl, Nat.le_of_ble_eq_true rfl⟩) (pvW 8 1 hK hP rfl rfl hc_15) rfl rfl hl.1 rfl (lv_room (Nat.le_of_ble_eq_true rfl)) dX8_readLevel_54 ⟨Nat.le_of_ble_eq_true rfl, Nat.le_of_ble_eq_true rfl⟩) hS (fun q _ h => hc_15.2.2 q h) hc_15.2.2 (fun r_15 u_15 t_15 H1 locs ht hvm h_15 hB hz1 hk1 hS => ?_)
      refine xl_6_7 hB (fun mkn_15 mvn_15 mbn_15 mpn_15 mwn_15 frn_15 hP1 hD1 hF_15_0 hF_15_1 hF_15_2 hF_15_3 hF_15_4 => ?_)
      clear hB
      rw [ht] at hP1
      obtain ⟨hu_15, h_15⟩ := h_15
      subst hu_15
      obtain ⟨hP, hD⟩ := va_join (wr := []) (w1 := [(xo_8_rrriirrriiiiiiirrirrrrri mo m_la m_sz m_it ms mt m_st m_mv m_tp (nI mz) ml (nI mpn_15) mkn_15 mvn_15 mbn_15 mwn_15 m_rd m_ac (nI ma) m_as m_wo m_ik m_ke m_tr (nI mx)), (xI m_tp cI 120 ft_), (xI m_rd cI 38 frn_15)]) hP hD [1, 2, 0] [] rfl rfl (by decide +kernel) (by decide +kernel) hk1 hc_15.2.2 hP1 hD1
      generalize H1 = H at hP hS ⊢
      have hP : va_P (dC, dI) vwCl [(xo_8_rrriirrriiiiiiirrirrrrri mo m_la m_sz m_it ms mt m_st m_mv m_tp (nI mz) ml (nI mpn_15) mkn_15 mvn_15 mbn_15 mwn_15 m_rd m_ac (nI ma) m_as m_wo m_ik m_ke m_tr (nI mx)), (xI m_tp cI 120 ft_), (xI m_rd cI 38 frn_15)] H := hP
      have hD := dto hP hD
      rcases h_15 with ⟨h_15, f_15_0_0⟩ | ⟨h_15, f_15_1_0⟩
      · subst h_15
        have Lx : rR ft_ mz = (((mkn_15, mvn_15, mbn_15, mpn_15), m38 frn_15), nE 5 15 (mkn_12, mvn_12, mbn_12, mpn_12)) := (lf_X8_readLevel_7 hmz haf_0 hu_10 Lr hF_11_0 hF_11_1 hF_12_0 hF_12_1 hF_12_2 f_12_1_0 La hF_15_0 hF_15_2 hF_15_3 hF_15_4 f_15_0_0)
        have Ln : ¬ nE 5 15 (mkn_12, mvn_12, mbn_12, mpn_12) = 0 := nE_nz _ _ _
        refine lv_if_eq (tgt := 98) hx hb dX8_readLevel_57 (by decide) (fun _ => ?_) (fun c_ => absurd (by decide) c_)
        refine lv_iconst (v := 0) hx hb dX8_readLevel_98 (by decide) ?_
        have hX9 := cut2 (wc := [(xo_8_rrriirrriiiiiiirrirrrrri mo m_la m_sz m_it ms mt m_st m_mv m_tp (nI mz) ml (nI mpn_15) mkn_15 mvn_15 mbn_15 mwn_15 m_rd m_ac (nI ma) m_as m_wo m_ik m_ke m_tr (nI mx)), (xI m_tp cI 120 ft_), (xI m_rd cI 38 frn_15)]) hP hD [0, 1, 2] (by decide +kernel) rfl
        exact W.zret (v := 0) hx hb hr (by decide) (fun t ht hW => ⟨⟨0, 0, rfl, ⟨rfl, Or.inl (⟨rfl, (lf_X8_readLevel_10 hmz haf_0 hu_10 Lr hF_11_0 hF_11_1 hF_12_0 hF_12_1 hF_12_2 f_12_1_0 La hF_15_0 hF_15_2 hF_15_3 hF_15_4 f_15_0_0 Lx Ln)⟩)⟩, ⟨mkn_15, mvn_15, mbn_15, mpn_15, mwn_15, frn_15, 0, 0, va_Ht ht hX9.1, hX9.2, (by omega), (fun h_ => absurd h_ (by decide)), (lf_X8_readLevel_8 hmz haf_0 hu_10 Lr hF_11_0 hF_11_1 hF_12_0 hF_12_1 hF_12_2 f_12_1_0 La hF_15_0 hF_15_2 hF_15_3 hF_15_4 f_15_0_0 Lx Ln), (lf_X8_readLevel_9 hmz haf_0 hu_10 Lr hF_11_0 hF_11_1 hF_12_0 hF_12_1 hF_12_2 f_12_1_0 La hF_15_0 hF_15_2 hF_15_3 hF_15_4 f_15_0_0 Lx Ln)⟩⟩, hS.F ht⟩) hS.2.2 dX8_readLevel_99
      · subst h_15
        obtain ⟨tv_15, te_15, tf_15⟩ := hF_15_1 rfl
        obtain ⟨cq, hcq5, hR_15⟩ := okR_0 hR_10 te_15 tf_15
        have Lb : lRb ft_ mz = (((mkn_15, mvn_15, mbn_15, mpn_15), m38 frn_15), 0) := (lf_X8_readLevel_11 hmz haf_0 hu_10 Lr hF_11_0 hF_11_1 hF_12_0 hF_12_1 hF_12_2 f_12_1_0 La hF_15_0 hF_15_2 hF_15_3 hF_15_4 f_15_1_0 hR_15)
        have L0 : m38 frn_15 0 = nI cq := (m38_at (by decide)).trans hR_15.1
        refine lv_if_eq (tgt := 98) hx hb dX8_readLevel_57 (by decide) (fun c_ => absurd c_ (by decide)) (fun _ => ?_)
        refine lv_aload_n hx hb dX8_readLevel_60 rfl (lv_at hl 1 rfl) ?_
        refine lv_iconst (v := 0) hx hb dX8_readLevel_61 (by decide) ?_
        refine lv_aload_n hx hb dX8_readLevel_62 rfl (lv_at hl 1 rfl) ?_
        refine va_get (D := (dC, dI)) (ci := 8) (v := .ref m_rd) (C := RX8) (T := TX8) (N := 24) hx hb hts i_X8_readLevel_X8 hown hK hP 0 rfl rfl 15 (by decide) (hts _ mx_X8_readLevel_2) (fun _ h9 => h9) rfl dX8_readLevel_63 ?_
        refine lv_iconst (v := 0) hx hb dX8_readLevel_66 (by decide) ?_
        refine va_iald hx hb hK hP 2 0 rfl rfl (by unfold vp_in; decide) dX8_readLevel_67 ?_
        refine lv_topi (fun v_18 e_18 => ?_)
        obtain rfl : v_18 = (nI cq) := (e_18).trans hR_15.1
        refine lv_iconst (v := 1) hx hb dX8_readLevel_68 (by decide) ?_
        refine lv_isub hx hb dX8_readLevel_69 ?_
        refine lv_topi (fun v_19 e_19 => ?_)
        refine lv_iconst (v := 1) hx hb dX8_readLevel_70 (by decide) ?_
        refine lv_bipush (v := 44) hx hb dX8_readLevel_71 (by decide) ?_
        have hc_20 := cutW (wc := [(xo_8_rrriirrriiiiiiirrirrrrri mo m_la m_sz m_it ms mt m_st m_mv m_tp (nI mz) ml (nI mpn_15) mkn_15 mvn_15 mbn_15 mwn_15 m_rd m_ac (nI ma) m_as m_wo m_ik m_ke m_tr (nI mx)), (xI m_tp cI 120 ft_), (xI m_rd cI 38 frn_15)]) hP hD hS hA [0, 1, 2] (by decide +kernel) rfl
        refine va_calli (va_runV (As := [.int 0, .int v_19, .int 1, .int 44]) (rest := []) ⟨hx, hb, hml, hown, hts⟩ (r_X8_takesNumber l dC dI cI cZ cL cJ H.size mo m_la m_sz m_it m_st m_mv m_tp m_rd m_ac m_as m_wo m_ik m_ke m_tr ms mt ml mkn_15 mvn_15 mbn_15 mwn_15 mz mpn_15 ma mx ft_ frn_15 0 v_19 1 44 (by omega) (hmz) (by omega)) (cwV 4 hts gX8_readLevel_X8_takesNumber rfl rfl rfl (by decide +kernel) ⟨Nat.le_of_ble_eq_true rfl, Nat.le_of_ble_eq_true rfl⟩) (pvW 8 0 hK hP rfl rfl hc_20) rfl rfl hl.1 rfl (lv_room (Nat.le_of_ble_eq_true rfl)) dX8_readLevel_73 ⟨Nat.le_of_ble_eq_true rfl, Nat.le_of_ble_eq_true rfl⟩) hS (fun q _ h => hc_20.2.2 q h) hc_20.2.2 (fun r_20 u_20 t_20 H1 locs ht hvm h_20 hB hz1 hk1 hS => ?_)
        refine xl_6_7 hB (fun mkn_20 mvn_20 mbn_20 mpn_20 mwn_20 frn_20 hP1 hD1 hF_20_0 hF_20_1 hF_20_2 hF_20_3 hF_20_4 => ?_)
        clear hB
        rw [ht] at hP1
        obtain ⟨hu_20, h_20⟩ := h_20
        subst hu_20
        obtain ⟨hP, hD⟩ := va_join (wr := []) (w1 := [(xo_8_rrriirrriiiiiiirrirrrrri mo m_la m_sz m_it ms mt m_st m_mv m_tp (nI mz) ml (nI mpn_20) mkn_20 mvn_20 mbn_20 mwn_20 m_rd m_ac (nI ma) m_as m_wo m_ik m_ke m_tr (nI mx)), (xI m_tp cI 120 ft_), (xI m_rd cI 38 frn_20)]) hP hD [0, 1, 2] [] rfl rfl (by decide +kernel) (by decide +kernel) hk1 hc_20.2.2 hP1 hD1
        generalize H1 = H at hP hS ⊢
        have hP : va_P (dC, dI) vwCl [(xo_8_rrriirrriiiiiiirrirrrrri mo m_la m_sz m_it ms mt m_st m_mv m_tp (nI mz) ml (nI mpn_20) mkn_20 mvn_20 mbn_20 mwn_20 m_rd m_ac (nI ma) m_as m_wo m_ik m_ke m_tr (nI mx)), (xI m_tp cI 120 ft_), (xI m_rd cI 38 frn_20)] H := hP
        have hD := dto hP hD
        rcases h_20 with ⟨h_20, f_20_0_0⟩ | ⟨h_20, f_20_1_0⟩
        · subst h_20
          have Lx : rR ft_ mz = (((mkn_20, mvn_20, mbn_20, mpn_20), m38 frn_20), nE 0 ((nI cq) - 1) (mkn_15, mvn_15, mbn_15, mpn_15)) := (lf_X8_readLevel_12 hmz haf_0 hu_10 Lr hF_11_0 hF_11_1 hF_12_0 hF_12_1 hF_12_2 f_12_1_0 La hF_15_0 hF_15_2 hF_15_3 hF_15_4 f_15_1_0 hR_15 Lb L0 e_19 hF_20_0 hF_20_2 hF_20_3 hF_20_4 f_20_0_0)
          have Ln : ¬ nE 0 ((nI cq) - 1) (mkn_15, mvn_15, mbn_15, mpn_15) = 0 := nE_nz _ _ _
          refine lv_if_eq (tgt := 98) hx hb dX8_readLevel_76 (by decide) (fun _ => ?_) (fun c_ => absurd (by decide) c_)
          refine lv_iconst (v := 0) hx hb dX8_readLevel_98 (by decide) ?_
          have hX9 := cut2 (wc := [(xo_8_rrriirrriiiiiiirrirrrrri mo m_la m_sz m_it ms mt m_st m_mv m_tp (nI mz) ml (nI mpn_20) mkn_20 mvn_20 mbn_20 mwn_20 m_rd m_ac (nI ma) m_as m_wo m_ik m_ke m_tr (nI mx)), (xI m_tp cI 120 ft_), (xI m_rd cI 38 frn_20)]) hP hD [0, 1, 2] (by decide +kernel) rfl
          exact W.zret (v := 0) hx hb hr (by decide) (fun t ht hW => ⟨⟨0, 0, rfl, ⟨rfl, Or.inl (⟨rfl, (lf_X8_readLevel_15 hmz haf_0 hu_10 Lr hF_11_0 hF_11_1 hF_12_0 hF_12_1 hF_12_2 f_12_1_0 La hF_15_0 hF_15_2 hF_15_3 hF_15_4 f_15_1_0 hR_15 Lb L0 e_19 hF_20_0 hF_20_2 hF_20_3 hF_20_4 f_20_0_0 Lx Ln)⟩)⟩, ⟨mkn_20, mvn_20, mbn_20, mpn_20, mwn_20, frn_20, 0, 0, va_Ht ht hX9.1, hX9.2, (by omega), (fun h_ => absurd h_ (by decide)), (lf_X8_readLevel_13 hmz haf_0 hu_10 Lr hF_11_0 hF_11_1 hF_12_0 hF_12_1 hF_12_2 f_12_1_0 La hF_15_0 hF_15_2 hF_15_3 hF_15_4 f_15_1_0 hR_15 Lb L0 e_19 hF_20_0 hF_20_2 hF_20_3 hF_20_4 f_20_0_0 Lx Ln), (lf_X8_readLevel_14 hmz haf_0 hu_10 Lr hF_11_0 hF_11_1 hF_12_0 hF_12_1 hF_12_2 f_12_1_0 La hF_15_0 hF_15_2 hF_15_3 hF_15_4 f_15_1_0 hR_15 Lb L0 e_19 hF_20_0 hF_20_2 hF_20_3 hF_20_4 f_20_0_0 Lx Ln)⟩⟩, hS.F ht⟩) hS.2.2 dX8_readLevel_99
        · subst h_20
          obtain ⟨tv_20, te_20, tf_20⟩ := hF_20_1 rfl
          have hR_20 := okR_off hR_15 te_20 (by omega) (by omega) (by omega) (by omega) (by omega)
          have Lc : lRc ft_ mz = (((mkn_20, mvn_20, mbn_20, mpn_20), m38 frn_20), 0) := (lf_X8_readLevel_16 hmz haf_0 hu_10 Lr hF_11_0 hF_11_1 hF_12_0 hF_12_1 hF_12_2 f_12_1_0 La hF_15_0 hF_15_2 hF_15_3 hF_15_4 f_15_1_0 hR_15 Lb L0 e_19 hF_20_0 hF_20_2 hF_20_3 hF_20_4 f_20_1_0 hR_20)
          refine lv_if_eq (tgt := 98) hx hb dX8_readLevel_76 (by decide) (fun c_ => absurd c_ (by decide)) (fun _ => ?_)
          refine lv_aload_n hx hb dX8_readLevel_79 rfl (lv_at hl 1 rfl) ?_
          refine lv_iconst (v := 0) hx hb dX8_readLevel_80 (by decide) ?_
          refine lv_iconst (v := 4) hx hb dX8_readLevel_81 (by decide) ?_
          refine lv_iconst (v := 2) hx hb dX8_readLevel_82 (by decide) ?_
          refine lv_bipush (v := 59) hx hb dX8_readLevel_83 (by decide) ?_
          have hc_23 := cutW (wc := [(xo_8_rrriirrriiiiiiirrirrrrri mo m_la m_sz m_it ms mt m_st m_mv m_tp (nI mz) ml (nI mpn_20) mkn_20 mvn_20 mbn_20 mwn_20 m_rd m_ac (nI ma) m_as m_wo m_ik m_ke m_tr (nI mx)), (xI m_tp cI 120 ft_), (xI m_rd cI 38 frn_20)]) hP hD hS hA [0, 1, 2] (by decide +kernel) rfl
          refine va_calli (va_runV (As := [.int 0, .int 4, .int 2, .int 59]) (rest := []) ⟨hx, hb, hml, hown, hts⟩ (r_X8_takesNumber l dC dI cI cZ cL cJ H.size mo m_la m_sz m_it m_st m_mv m_tp m_rd m_ac m_as m_wo m_ik m_ke m_tr ms mt ml mkn_20 mvn_20 mbn_20 mwn_20 mz mpn_20 ma mx ft_ frn_20 0 4 2 59 (by omega) (hmz) (by omega)) (cwV 4 hts gX8_readLevel_X8_takesNumber rfl rfl rfl (by decide +kernel) ⟨Nat.le_of_ble_eq_true rfl, Nat.le_of_ble_eq_true rfl⟩) (pvW 8 0 hK hP rfl rfl hc_23) rfl rfl hl.1 rfl (lv_room (Nat.le_of_ble_eq_true rfl)) dX8_readLevel_85 ⟨Nat.le_of_ble_eq_true rfl, Nat.le_of_ble_eq_true rfl⟩) hS (fun q _ h => hc_23.2.2 q h) hc_23.2.2 (fun r_23 u_23 t_23 H1 locs ht hvm h_23 hB hz1 hk1 hS => ?_)
          refine xl_6_7 hB (fun mkn_23 mvn_23 mbn_23 mpn_23 mwn_23 frn_23 hP1 hD1 hF_23_0 hF_23_1 hF_23_2 hF_23_3 hF_23_4 => ?_)
          clear hB
          rw [ht] at hP1
          obtain ⟨hu_23, h_23⟩ := h_23
          subst hu_23
          obtain ⟨hP, hD⟩ := va_join (wr := []) (w1 := [(xo_8_rrriirrriiiiiiirrirrrrri mo m_la m_sz m_it ms mt m_st m_mv m_tp (nI mz) ml (nI mpn_23) mkn_23 mvn_23 mbn_23 mwn_23 m_rd m_ac (nI ma) m_as m_wo m_ik m_ke m_tr (nI mx)), (xI m_tp cI 120 ft_), (xI m_rd cI 38 frn_23)]) hP hD [0, 1, 2] [] rfl rfl (by decide +kernel) (by decide +kernel) hk1 hc_23.2.2 hP1 hD1
          generalize H1 = H at hP hS ⊢
          have hP : va_P (dC, dI) vwCl [(xo_8_rrriirrriiiiiiirrirrrrri mo m_la m_sz m_it ms mt m_st m_mv m_tp (nI mz) ml (nI mpn_23) mkn_23 mvn_23 mbn_23 mwn_23 m_rd m_ac (nI ma) m_as m_wo m_ik m_ke m_tr (nI mx)), (xI m_tp cI 120 ft_), (xI m_rd cI 38 frn_23)] H := hP
          have hD := dto hP hD
          rcases h_23 with ⟨h_23, f_23_0_0⟩ | ⟨h_23, f_23_1_0⟩
          · subst h_23
            have Lx : rR ft_ mz = (((mkn_23, mvn_23, mbn_23, mpn_23), m38 frn_23), nE 0 4 (mkn_20, mvn_20, mbn_20, mpn_20)) := (lf_X8_readLevel_17 hmz haf_0 hu_10 Lr hF_11_0 hF_11_1 hF_12_0 hF_12_1 hF_12_2 f_12_1_0 La hF_15_0 hF_15_2 hF_15_3 hF_15_4 f_15_1_0 hR_15 Lb L0 e_19 hF_20_0 hF_20_2 hF_20_3 hF_20_4 f_20_1_0 hR_20 Lc hF_23_0 hF_23_2 hF_23_3 hF_23_4 f_23_0_0)
            have Ln : ¬ nE 0 4 (mkn_20, mvn_20, mbn_20, mpn_20) = 0 := nE_nz _ _ _
            refine lv_if_eq (tgt := 98) hx hb dX8_readLevel_88 (by decide) (fun _ => ?_) (fun c_ => absurd (by decide) c_)
            refine lv_iconst (v := 0) hx hb dX8_readLevel_98 (by decide) ?_
            have hX9 := cut2 (wc := [(xo_8_rrriirrriiiiiiirrirrrrri mo m_la m_sz m_it ms mt m_st m_mv m_tp (nI mz) ml (nI mpn_23) mkn_23 mvn_23 mbn_23 mwn_23 m_rd m_ac (nI ma) m_as m_wo m_ik m_ke m_tr (nI mx)), (xI m_tp cI 120 ft_), (xI m_rd cI 38 frn_23)]) hP hD [0, 1, 2] (by decide +kernel) rfl
            exact W.zret (v := 0) hx hb hr (by decide) (fun t ht hW => ⟨⟨0, 0, rfl, ⟨rfl, Or.inl (⟨rfl, (lf_X8_readLevel_20 hmz haf_0 hu_10 Lr hF_11_0 hF_11_1 hF_12_0 hF_12_1 hF_12_2 f_12_1_0 La hF_15_0 hF_15_2 hF_15_3 hF_15_4 f_15_1_0 hR_15 Lb L0 e_19 hF_20_0 hF_20_2 hF_20_3 hF_20_4 f_20_1_0 hR_20 Lc hF_23_0 hF_23_2 hF_23_3 hF_23_4 f_23_0_0 Lx Ln)⟩)⟩, ⟨mkn_23, mvn_23, mbn_23, mpn_23, mwn_23, frn_23, 0, 0, va_Ht ht hX9.1, hX9.2, (by omega), (fun h_ => absurd h_ (by decide)), (lf_X8_readLevel_18 hmz haf_0 hu_10 Lr hF_11_0 hF_11_1 hF_12_0 hF_12_1 hF_12_2 f_12_1_0 La hF_15_0 hF_15_2 hF_15_3 hF_15_4 f_15_1_0 hR_15 Lb L0 e_19 hF_20_0 hF_20_2 hF_20_3 hF_20_4 f_20_1_0 hR_20 Lc hF_23_0 hF_23_2 hF_23_3 hF_23_4 f_23_0_0 Lx Ln), (lf_X8_readLevel_19 hmz haf_0 hu_10 Lr hF_11_0 hF_11_1 hF_12_0 hF_12_1 hF_12_2 f_12_1_0 La hF_15_0 hF_15_2 hF_15_3 hF_15_4 f_15_1_0 hR_15 Lb L0 e_19 hF_20_0 hF_20_2 hF_20_3 hF_20_4 f_20_1_0 hR_20 Lc hF_23_0 hF_23_2 hF_23_3 hF_23_4 f_23_0_0 Lx Ln)⟩⟩, hS.F ht⟩) hS.2.2 dX8_readLevel_99
          · subst h_23
            obtain ⟨tv_23, te_23, tf_23⟩ := hF_23_1 rfl
            have hR_23 := okR_off hR_20 te_23 (by omega) (by omega) (by omega) (by omega) (by omega)
            have Ld : lRd ft_ mz = (((mkn_23, mvn_23, mbn_23, mpn_23), m38 frn_23), 0) := (lf_X8_readLevel_21 hmz haf_0 hu_10 Lr hF_11_0 hF_11_1 hF_12_0 hF_12_1 hF_12_2 f_12_1_0 La hF_15_0 hF_15_2 hF_15_3 hF_15_4 f_15_1_0 hR_15 Lb L0 e_19 hF_20_0 hF_20_2 hF_20_3 hF_20_4 f_20_1_0 hR_20 Lc hF_23_0 hF_23_2 hF_23_3 hF_23_4 f_23_1_0 hR_23)
            refine lv_if_eq (tgt := 98) hx hb dX8_readLevel_88 (by decide) (fun c_ => absurd c_ (by decide)) (fun _ => ?_)
            refine lv_aload_n hx hb dX8_readLevel_91 rfl (lv_at hl 1 rfl) ?_
            have hc_26 := cutW (wc := [(xo_8_rrriirrriiiiiiirrirrrrri mo m_la m_sz m_it ms mt m_st m_mv m_tp (nI mz) ml (nI mpn_23) mkn_23 mvn_23 mbn_23 mwn_23 m_rd m_ac (nI ma) m_as m_wo m_ik m_ke m_tr (nI mx)), (xI m_tp cI 120 ft_), (xI m_rd cI 38 frn_23)]) hP hD hS hA [0, 1, 2] (by decide +kernel) rfl
            refine va_calli (va_runV (As := []) (rest := []) ⟨hx, hb, hml, hown, hts⟩ (r_X8_readWind l dC dI cI cZ cL cJ H.size mo m_la m_sz m_it m_st m_mv m_tp m_rd m_ac m_as m_wo m_ik m_ke m_tr ms mt ml mkn_23 mvn_23 mbn_23 mwn_23 mz mpn_23 ma mx ft_ frn_23 cq 0 0 (by omega) (hmz) (hR_23)) (cwV 0 hts gX8_readLevel_X8_readWind rfl rfl rfl (by decide +kernel) ⟨Nat.le_of_ble_eq_true rfl, Nat.le_of_ble_eq_true rfl⟩) (pvW 8 0 hK hP rfl rfl hc_26) rfl rfl hl.1 rfl (lv_room (Nat.le_of_ble_eq_true rfl)) dX8_readLevel_92 ⟨Nat.le_of_ble_eq_true rfl, Nat.le_of_ble_eq_true rfl⟩) hS (fun q _ h => hc_26.2.2 q h) hc_26.2.2 (fun r_26 u_26 t_26 H1 locs ht hvm h_26 hB hz1 hk1 hS => ?_)
            refine xl_6_6 hB (fun mkn_26 mvn_26 mbn_26 mpn_26 mwn_26 frn_26 hP1 hD1 hF_26_0 hF_26_1 hF_26_2 hF_26_3 => ?_)
            clear hB
            rw [ht] at hP1
            obtain ⟨hu_26, h_26⟩ := h_26
            subst hu_26
            obtain ⟨hP, hD⟩ := va_join (wr := []) (w1 := [(xo_8_rrriirrriiiiiiirrirrrrri mo m_la m_sz m_it ms mt m_st m_mv m_tp (nI mz) ml (nI mpn_26) mkn_26 mvn_26 mbn_26 mwn_26 m_rd m_ac (nI ma) m_as m_wo m_ik m_ke m_tr (nI mx)), (xI m_tp cI 120 ft_), (xI m_rd cI 38 frn_26)]) hP hD [0, 1, 2] [] rfl rfl (by decide +kernel) (by decide +kernel) hk1 hc_26.2.2 hP1 hD1
            generalize H1 = H at hP hS ⊢
            have hP : va_P (dC, dI) vwCl [(xo_8_rrriirrriiiiiiirrirrrrri mo m_la m_sz m_it ms mt m_st m_mv m_tp (nI mz) ml (nI mpn_26) mkn_26 mvn_26 mbn_26 mwn_26 m_rd m_ac (nI ma) m_as m_wo m_ik m_ke m_tr (nI mx)), (xI m_tp cI 120 ft_), (xI m_rd cI 38 frn_26)] H := hP
            have hD := dto hP hD
            rcases h_26 with ⟨h_26, f_26_0_0⟩ | ⟨h_26, f_26_1_0⟩
            · subst h_26
              have Lx : rR ft_ mz = (((mkn_26, mvn_26, mbn_26, mpn_26), m38 frn_26), wE ft_ mz ((mkn_23, mvn_23, mbn_23, mpn_23), m38 frn_23)) := (lf_X8_readLevel_22 hmz haf_0 hu_10 Lr hF_11_0 hF_11_1 hF_12_0 hF_12_1 hF_12_2 f_12_1_0 La hF_15_0 hF_15_2 hF_15_3 hF_15_4 f_15_1_0 hR_15 Lb L0 e_19 hF_20_0 hF_20_2 hF_20_3 hF_20_4 f_20_1_0 hR_20 Lc hF_23_0 hF_23_2 hF_23_3 hF_23_4 f_23_1_0 hR_23 Ld hF_26_0 hF_26_2 hF_26_3 f_26_0_0)
              have Ln : ¬ wE ft_ mz ((mkn_23, mvn_23, mbn_23, mpn_23), m38 frn_23) = 0 := wE_nz _ _ _
              refine lv_if_ne (tgt := 100) hx hb dX8_readLevel_95 (by decide) (fun c_ => absurd (by decide) c_) (fun _ => ?_)
              refine lv_iconst (v := 0) hx hb dX8_readLevel_98 (by decide) ?_
              have hX9 := cut2 (wc := [(xo_8_rrriirrriiiiiiirrirrrrri mo m_la m_sz m_it ms mt m_st m_mv m_tp (nI mz) ml (nI mpn_26) mkn_26 mvn_26 mbn_26 mwn_26 m_rd m_ac (nI ma) m_as m_wo m_ik m_ke m_tr (nI mx)), (xI m_tp cI 120 ft_), (xI m_rd cI 38 frn_26)]) hP hD [0, 1, 2] (by decide +kernel) rfl
              exact W.zret (v := 0) hx hb hr (by decide) (fun t ht hW => ⟨⟨0, 0, rfl, ⟨rfl, Or.inl (⟨rfl, (lf_X8_readLevel_25 hmz haf_0 hu_10 Lr hF_11_0 hF_11_1 hF_12_0 hF_12_1 hF_12_2 f_12_1_0 La hF_15_0 hF_15_2 hF_15_3 hF_15_4 f_15_1_0 hR_15 Lb L0 e_19 hF_20_0 hF_20_2 hF_20_3 hF_20_4 f_20_1_0 hR_20 Lc hF_23_0 hF_23_2 hF_23_3 hF_23_4 f_23_1_0 hR_23 Ld hF_26_0 hF_26_2 hF_26_3 f_26_0_0 Lx Ln)⟩)⟩, ⟨mkn_26, mvn_26, mbn_26, mpn_26, mwn_26, frn_26, 0, 0, va_Ht ht hX9.1, hX9.2, (by omega), (fun h_ => absurd h_ (by decide)), (lf_X8_readLevel_23 hmz haf_0 hu_10 Lr hF_11_0 hF_11_1 hF_12_0 hF_12_1 hF_12_2 f_12_1_0 La hF_15_0 hF_15_2 hF_15_3 hF_15_4 f_15_1_0 hR_15 Lb L0 e_19 hF_20_0 hF_20_2 hF_20_3 hF_20_4 f_20_1_0 hR_20 Lc hF_23_0 hF_23_2 hF_23_3 hF_23_4 f_23_1_0 hR_23 Ld hF_26_0 hF_26_2 hF_26_3 f_26_0_0 Lx Ln), (lf_X8_readLevel_24 hmz haf_0 hu_10 Lr hF_11_0 hF_11_1 hF_12_0 hF_12_1 hF_12_2 f_12_1_0 La hF_15_0 hF_15_2 hF_15_3 hF_15_4 f_15_1_0 hR_15 Lb L0 e_19 hF_20_0 hF_20_2 hF_20_3 hF_20_4 f_20_1_0 hR_20 Lc hF_23_0 hF_23_2 hF_23_3 hF_23_4 f_23_1_0 hR_23 Ld hF_26_0 hF_26_2 hF_26_3 f_26_0_0 Lx Ln)⟩⟩, hS.F ht⟩) hS.2.2 dX8_readLevel_99
            · subst h_26
              obtain ⟨hR_26, hlt_26⟩ := hF_26_1 rfl
              have Le : lRe ft_ mz = (((mkn_26, mvn_26, mbn_26, mpn_26), m38 frn_26), 0) := (lf_X8_readLevel_26 hmz haf_0 hu_10 Lr hF_11_0 hF_11_1 hF_12_0 hF_12_1 hF_12_2 f_12_1_0 La hF_15_0 hF_15_2 hF_15_3 hF_15_4 f_15_1_0 hR_15 Lb L0 e_19 hF_20_0 hF_20_2 hF_20_3 hF_20_4 f_20_1_0 hR_20 Lc hF_23_0 hF_23_2 hF_23_3 hF_23_4 f_23_1_0 hR_23 Ld hF_26_0 hF_26_2 hF_26_3 f_26_1_0 hR_26)
              refine lv_if_ne (tgt := 100) hx hb dX8_readLevel_95 (by decide) (fun _ => ?_) (fun c_ => absurd c_ (by decide))
              refine lv_iconst (v := 1) hx hb dX8_readLevel_100 (by decide) ?_
              refine lv_istore_n (lv' := [(1, .int 1), (0, .ref mo)]) hx hb dX8_readLevel_101 rfl hl (by decide) rfl (fun ls hl => ?_)
              refine lp_ms (σ := (Nat) × (Int32) × (Int32) × (Int32) × (Int32) × (Nat → Int32)) (fun (st : (Nat) × (Int32) × (Int32) × (Int32) × (Int32) × (Nat → Int32)) H locs ls => match st with | (w_107, w_108, w_109, w_110, w_111, w_112) => lv_has ls 2 [(1, .int 1), (0, .ref mo)] ∧ va_P (dC, dI) vwCl [(xo_8_rrriirrriiiiiiirrirrrrri mo m_la m_sz m_it ms mt m_st m_mv m_tp (nI mz) ml (nI w_107) w_108 w_109 w_110 w_111 m_rd m_ac (nI ma) m_as m_wo m_ik m_ke m_tr (nI mx)), (xI m_tp cI 120 ft_), (xI m_rd cI 38 w_112)] H ∧ va_D A [(xo_8_rrriirrriiiiiiirrirrrrri mo m_la m_sz m_it ms mt m_st m_mv m_tp (nI mz) ml (nI w_107) w_108 w_109 w_110 w_111 m_rd m_ac (nI ma) m_as m_wo m_ik m_ke m_tr (nI mx)), (xI m_tp cI 120 ft_), (xI m_rd cI 38 w_112)] ∧ va_S A s.heap H locs ∧ (∃ W : Nat, 1 ≤ W ∧ okR w_112 cq W 0 0 ∧ wL ft_ mz (7 - W) (((w_108, w_109, w_110, w_107), m38 w_112), 0) = wL ft_ mz 6 (lRe ft_ mz)) ∧ w_107 ≤ mz) (fun (st : (Nat) × (Int32) × (Int32) × (Int32) × (Int32) × (Nat → Int32)) => match st with | (w_107, w_108, w_109, w_110, w_111, w_112) => 6 - (w_112 3).toNatClampNeg) ?_ (mpn_26, mkn_26, mvn_26, mbn_26, mwn_26, frn_26) ⟨lv_sub hl [0, 1] rfl, hP.sub (ws' := [(xo_8_rrriirrriiiiiiirrirrrrri mo m_la m_sz m_it ms mt m_st m_mv m_tp (nI mz) ml (nI mpn_26) mkn_26 mvn_26 mbn_26 mwn_26 m_rd m_ac (nI ma) m_as m_wo m_ik m_ke m_tr (nI mx)), (xI m_tp cI 120 ft_), (xI m_rd cI 38 frn_26)]) [0, 1, 2] rfl, hD.sub (ws' := [(xo_8_rrriirrriiiiiiirrirrrrri mo m_la m_sz m_it ms mt m_st m_mv m_tp (nI mz) ml (nI mpn_26) mkn_26 mvn_26 mbn_26 mwn_26 m_rd m_ac (nI ma) m_as m_wo m_ik m_ke m_tr (nI mx)), (xI m_tp cI 120 ft_), (xI m_rd cI 38 frn_26)]) [0, 1, 2] (by decide +kernel) rfl, hS, ⟨(0 + 1), by omega, hR_26, (lf_X8_readLevel_27 hmz haf_0 hu_10 Lr hF_11_0 hF_11_1 hF_12_0 hF_12_1 hF_12_2 f_12_1_0 La hF_15_0 hF_15_2 hF_15_3 hF_15_4 f_15_1_0 hR_15 Lb L0 e_19 hF_20_0 hF_20_2 hF_20_3 hF_20_4 f_20_1_0 hR_20 Lc hF_23_0 hF_23_2 hF_23_3 hF_23_4 f_23_1_0 hR_23 Ld hF_26_0 hF_26_2 hF_26_3 f_26_1_0 hR_26 Le)⟩, (by omega)⟩
              rintro ⟨w_107, w_108, w_109, w_110, w_111, w_112⟩ H locs ls ⟨hl, hP, hD, hS, haf_0, hnb_w_107⟩ ih
              obtain ⟨W_, hW1, hRW, hLw⟩ := haf_0
              have hW6 := hRW.2.2.2.1
              refine lv_iload_n hx hb dX8_readLevel_102 rfl (lv_at hl 0 rfl) ?_
              refine lv_if_eq (tgt := 131) hx hb dX8_readLevel_103 (by decide) (fun c_ => absurd c_ (by decide)) (fun _ => ?_)
              refine lv_aload_n hx hb dX8_readLevel_106 rfl (lv_at hl 1 rfl) ?_
              refine va_get (D := (dC, dI)) (ci := 8) (v := .int w_108) (C := RX8) (T := TX8) (N := 24) hx hb hts i_X8_readLevel_X8 hown hK hP 0 rfl rfl 11 (by decide) (hts _ mx_X8_readLevel_3) (fun _ h9 => h9) rfl dX8_readLevel_107 ?_
              refine lv_iconst (v := 1) hx hb dX8_readLevel_110 (by decide) ?_
              refine lv_icmp_ne (tgt := 131) hx hb dX8_readLevel_111 (by decide) (fun c_198 => ?_) (fun c_198 => ?_)
              · skip
                have LW : wL ft_ mz 6 (lRe ft_ mz) = (((w_108, w_109, w_110, w_107), m38 w_112), 0) := (lf_X8_readLevel_28 hmz hu_10 Lr hF_11_0 hF_11_1 hF_12_0 hF_12_1 hF_12_2 f_12_1_0 La hF_15_0 hF_15_2 hF_15_3 hF_15_4 f_15_1_0 hR_15 Lb L0 e_19 hF_20_0 hF_20_2 hF_20_3 hF_20_4 f_20_1_0 hR_20 Lc hF_23_0 hF_23_2 hF_23_3 hF_23_4 f_23_1_0 hR_23 Ld hF_26_0 hF_26_2 hF_26_3 f_26_1_0 hR_26 Le hnb_w_107 hW6 hLw c_198)
                refine lp_ms (σ := (Nat) × (Int32) × (Int32) × (Int32) × (Int32) × (Nat → Int32)) (fun (st : (Nat) × (Int32) × (Int32) × (Int32) × (Int32) × (Nat → Int32)) H locs ls => match st with | (w_207, w_208, w_209, w_210, w_211, w_212) => lv_has ls 2 [(1, .int 1), (0, .ref mo)] ∧ va_P (dC, dI) vwCl [(xo_8_rrriirrriiiiiiirrirrrrri mo m_la m_sz m_it ms mt m_st m_mv m_tp (nI mz) ml (nI w_207) w_208 w_209 w_210 w_211 m_rd m_ac (nI ma) m_as m_wo m_ik m_ke m_tr (nI mx)), (xI m_tp cI 120 ft_), (xI m_rd cI 38 w_212)] H ∧ va_D A [(xo_8_rrriirrriiiiiiirrirrrrri mo m_la m_sz m_it ms mt m_st m_mv m_tp (nI mz) ml (nI w_207) w_208 w_209 w_210 w_211 m_rd m_ac (nI ma) m_as m_wo m_ik m_ke m_tr (nI mx)), (xI m_tp cI 120 ft_), (xI m_rd cI 38 w_212)] ∧ va_S A s.heap H locs ∧ (∃ K : Nat, okR w_212 cq W_ K K ∧ sL ft_ mz (7 - K) (((w_208, w_209, w_210, w_207), m38 w_212), 0) = rR ft_ mz) ∧ w_207 ≤ mz) (fun (st : (Nat) × (Int32) × (Int32) × (Int32) × (Int32) × (Nat → Int32)) => match st with | (w_207, w_208, w_209, w_210, w_211, w_212) => 6 - (w_212 4).toNatClampNeg) ?_ (w_107, w_108, w_109, w_110, w_111, w_112) ⟨lv_sub hl [0, 1] rfl, hP.sub (ws' := [(xo_8_rrriirrriiiiiiirrirrrrri mo m_la m_sz m_it ms mt m_st m_mv m_tp (nI mz) ml (nI w_107) w_108 w_109 w_110 w_111 m_rd m_ac (nI ma) m_as m_wo m_ik m_ke m_tr (nI mx)), (xI m_tp cI 120 ft_), (xI m_rd cI 38 w_112)]) [0, 1, 2] rfl, hD.sub (ws' := [(xo_8_rrriirrriiiiiiirrirrrrri mo m_la m_sz m_it ms mt m_st m_mv m_tp (nI mz) ml (nI w_107) w_108 w_109 w_110 w_111 m_rd m_ac (nI ma) m_as m_wo m_ik m_ke m_tr (nI mx)), (xI m_tp cI 120 ft_), (xI m_rd cI 38 w_112)]) [0, 1, 2] (by decide +kernel) rfl, hS, ⟨0, hRW, (lf_X8_readLevel_29 hmz hu_10 Lr hF_11_0 hF_11_1 hF_12_0 hF_12_1 hF_12_2 f_12_1_0 La hF_15_0 hF_15_2 hF_15_3 hF_15_4 f_15_1_0 hR_15 Lb L0 e_19 hF_20_0 hF_20_2 hF_20_3 hF_20_4 f_20_1_0 hR_20 Lc hF_23_0 hF_23_2 hF_23_3 hF_23_4 f_23_1_0 hR_23 Ld hF_26_0 hF_26_2 hF_26_3 f_26_1_0 hR_26 Le hnb_w_107 hW6 hLw c_198 LW)⟩, (by omega)⟩
                rintro ⟨w_207, w_208, w_209, w_210, w_211, w_212⟩ H locs ls ⟨hl, hP, hD, hS, haf_0, hnb_w_207⟩ ih
                obtain ⟨K_, hRK, hLs⟩ := haf_0
                have hK6 := hRK.2.2.2.2.2.1
                have L4 : m38 w_212 4 = nI K_ := (m38_at (by decide)).trans hRK.2.2.2.2.1
                have L5 : (nI K_ = 0 ↔ K_ = 0) := nI_eq (b := 0) (by omega) (by decide)
                refine lv_iload_n hx hb dX8_readLevel_131 rfl (lv_at hl 0 rfl) ?_
                refine lv_if_eq (tgt := 160) hx hb dX8_readLevel_132 (by decide) (fun c_ => absurd c_ (by decide)) (fun _ => ?_)
                refine lv_aload_n hx hb dX8_readLevel_135 rfl (lv_at hl 1 rfl) ?_
                refine va_get (D := (dC, dI)) (ci := 8) (v := .int w_208) (C := RX8) (T := TX8) (N := 24) hx hb hts i_X8_readLevel_X8 hown hK hP 0 rfl rfl 11 (by decide) (hts _ mx_X8_readLevel_3) (fun _ h9 => h9) rfl dX8_readLevel_136 ?_
                refine lv_iconst (v := 3) hx hb dX8_readLevel_139 (by decide) ?_
                refine lv_icmp_ne (tgt := 152) hx hb dX8_readLevel_140 (by decide) (fun c_228 => ?_) (fun c_228 => ?_)
                · skip
                  refine lv_aload_n hx hb dX8_readLevel_152 rfl (lv_at hl 1 rfl) ?_
                  have hc_229 := cutW (wc := [(xo_8_rrriirrriiiiiiirrirrrrri mo m_la m_sz m_it ms mt m_st m_mv m_tp (nI mz) ml (nI w_207) w_208 w_209 w_210 w_211 m_rd m_ac (nI ma) m_as m_wo m_ik m_ke m_tr (nI mx)), (xI m_tp cI 120 ft_), (xI m_rd cI 38 w_212)]) hP hD hS hA [0, 1, 2] (by decide +kernel) rfl
                  refine va_calli (va_runV (As := []) (rest := []) ⟨hx, hb, hml, hown, hts⟩ (r_X8_readSound l dC dI cI cZ cL cJ H.size mo m_la m_sz m_it m_st m_mv m_tp m_rd m_ac m_as m_wo m_ik m_ke m_tr ms mt ml w_208 w_209 w_210 w_211 mz w_207 ma mx ft_ w_212 cq W_ K_ (by omega) (hmz) (hRK)) (cwV 0 hts gX8_readLevel_X8_readSound rfl rfl rfl (by decide +kernel) ⟨Nat.le_of_ble_eq_true rfl, Nat.le_of_ble_eq_true rfl⟩) (pvW 8 0 hK hP rfl rfl hc_229) rfl rfl hl.1 rfl (lv_room (Nat.le_of_ble_eq_true rfl)) dX8_readLevel_153 ⟨Nat.le_of_ble_eq_true rfl, Nat.le_of_ble_eq_true rfl⟩) hS (fun q _ h => hc_229.2.2 q h) hc_229.2.2 (fun r_229 u_229 t_229 H1 locs ht hvm h_229 hB hz1 hk1 hS => ?_)
                  refine xl_6_6 hB (fun mkn_229 mvn_229 mbn_229 mpn_229 mwn_229 frn_229 hP1 hD1 hF_229_0 hF_229_1 hF_229_2 hF_229_3 => ?_)
                  clear hB
                  rw [ht] at hP1
                  obtain ⟨hu_229, h_229⟩ := h_229
                  subst hu_229
                  obtain ⟨hP, hD⟩ := va_join (wr := []) (w1 := [(xo_8_rrriirrriiiiiiirrirrrrri mo m_la m_sz m_it ms mt m_st m_mv m_tp (nI mz) ml (nI mpn_229) mkn_229 mvn_229 mbn_229 mwn_229 m_rd m_ac (nI ma) m_as m_wo m_ik m_ke m_tr (nI mx)), (xI m_tp cI 120 ft_), (xI m_rd cI 38 frn_229)]) hP hD [0, 1, 2] [] rfl rfl (by decide +kernel) (by decide +kernel) hk1 hc_229.2.2 hP1 hD1
                  generalize H1 = H at hP hS ⊢
                  have hP : va_P (dC, dI) vwCl [(xo_8_rrriirrriiiiiiirrirrrrri mo m_la m_sz m_it ms mt m_st m_mv m_tp (nI mz) ml (nI mpn_229) mkn_229 mvn_229 mbn_229 mwn_229 m_rd m_ac (nI ma) m_as m_wo m_ik m_ke m_tr (nI mx)), (xI m_tp cI 120 ft_), (xI m_rd cI 38 frn_229)] H := hP
                  have hD := dto hP hD
                  rcases h_229 with ⟨h_229, f_229_0_0⟩ | ⟨h_229, f_229_1_0⟩
                  · subst h_229
                    have Lx : rR ft_ mz = (((mkn_229, mvn_229, mbn_229, mpn_229), m38 frn_229), sE ft_ mz ((w_208, w_209, w_210, w_207), m38 w_212)) := (lf_X8_readLevel_30 hmz hu_10 Lr hF_11_0 hF_11_1 hF_12_0 hF_12_1 hF_12_2 f_12_1_0 La hF_15_0 hF_15_2 hF_15_3 hF_15_4 f_15_1_0 hR_15 Lb L0 e_19 hF_20_0 hF_20_2 hF_20_3 hF_20_4 f_20_1_0 hR_20 Lc hF_23_0 hF_23_2 hF_23_3 hF_23_4 f_23_1_0 hR_23 Ld hF_26_0 hF_26_2 hF_26_3 f_26_1_0 hR_26 Le hnb_w_107 hW6 hLw c_198 LW hnb_w_207 hK6 hLs L4 L5 c_228 hF_229_0 hF_229_2 hF_229_3 f_229_0_0)
                    have Ln : ¬ sE ft_ mz ((w_208, w_209, w_210, w_207), m38 w_212) = 0 := sE_nz _ _ _
                    refine lv_istore_n (lv' := [(1, .int 0), (0, .ref mo)]) hx hb dX8_readLevel_156 rfl hl (by decide) rfl (fun ls hl => ?_)
                    refine lv_goto (tgt := 131) hx hb dX8_readLevel_157 (by decide) ?_
                    refine lv_iload_n hx hb dX8_readLevel_131 rfl (lv_at hl 0 rfl) ?_
                    refine lv_if_eq (tgt := 160) hx hb dX8_readLevel_132 (by decide) (fun _ => ?_) (fun c_ => absurd (by decide) c_)
                    refine lv_iload_n hx hb dX8_readLevel_160 rfl (lv_at hl 0 rfl) ?_
                    have hX9 := cut2 (wc := [(xo_8_rrriirrriiiiiiirrirrrrri mo m_la m_sz m_it ms mt m_st m_mv m_tp (nI mz) ml (nI mpn_229) mkn_229 mvn_229 mbn_229 mwn_229 m_rd m_ac (nI ma) m_as m_wo m_ik m_ke m_tr (nI mx)), (xI m_tp cI 120 ft_), (xI m_rd cI 38 frn_229)]) hP hD [0, 1, 2] (by decide +kernel) rfl
                    exact W.zret (v := 0) hx hb hr (by decide) (fun t ht hW => ⟨⟨0, 0, rfl, ⟨rfl, Or.inl (⟨rfl, (lf_X8_readLevel_33 hmz hu_10 Lr hF_11_0 hF_11_1 hF_12_0 hF_12_1 hF_12_2 f_12_1_0 La hF_15_0 hF_15_2 hF_15_3 hF_15_4 f_15_1_0 hR_15 Lb L0 e_19 hF_20_0 hF_20_2 hF_20_3 hF_20_4 f_20_1_0 hR_20 Lc hF_23_0 hF_23_2 hF_23_3 hF_23_4 f_23_1_0 hR_23 Ld hF_26_0 hF_26_2 hF_26_3 f_26_1_0 hR_26 Le hnb_w_107 hW6 hLw c_198 LW hnb_w_207 hK6 hLs L4 L5 c_228 hF_229_0 hF_229_2 hF_229_3 f_229_0_0 Lx Ln)⟩)⟩, ⟨mkn_229, mvn_229, mbn_229, mpn_229, mwn_229, frn_229, 0, 0, va_Ht ht hX9.1, hX9.2, (by omega), (fun h_ => absurd h_ (by decide)), (lf_X8_readLevel_31 hmz hu_10 Lr hF_11_0 hF_11_1 hF_12_0 hF_12_1 hF_12_2 f_12_1_0 La hF_15_0 hF_15_2 hF_15_3 hF_15_4 f_15_1_0 hR_15 Lb L0 e_19 hF_20_0 hF_20_2 hF_20_3 hF_20_4 f_20_1_0 hR_20 Lc hF_23_0 hF_23_2 hF_23_3 hF_23_4 f_23_1_0 hR_23 Ld hF_26_0 hF_26_2 hF_26_3 f_26_1_0 hR_26 Le hnb_w_107 hW6 hLw c_198 LW hnb_w_207 hK6 hLs L4 L5 c_228 hF_229_0 hF_229_2 hF_229_3 f_229_0_0 Lx Ln), (lf_X8_readLevel_32 hmz hu_10 Lr hF_11_0 hF_11_1 hF_12_0 hF_12_1 hF_12_2 f_12_1_0 La hF_15_0 hF_15_2 hF_15_3 hF_15_4 f_15_1_0 hR_15 Lb L0 e_19 hF_20_0 hF_20_2 hF_20_3 hF_20_4 f_20_1_0 hR_20 Lc hF_23_0 hF_23_2 hF_23_3 hF_23_4 f_23_1_0 hR_23 Ld hF_26_0 hF_26_2 hF_26_3 f_26_1_0 hR_26 Le hnb_w_107 hW6 hLw c_198 LW hnb_w_207 hK6 hLs L4 L5 c_228 hF_229_0 hF_229_2 hF_229_3 f_229_0_0 Lx Ln)⟩⟩, hS.F ht⟩) hS.2.2 dX8_readLevel_161
                  · subst h_229
                    obtain ⟨hR_229, hlt_229⟩ := hF_229_1 rfl
                    refine lv_istore_n (lv' := [(1, .int 1), (0, .ref mo)]) hx hb dX8_readLevel_156 rfl hl (by decide) rfl (fun ls hl => ?_)
                    refine lv_goto (tgt := 131) hx hb dX8_readLevel_157 (by decide) ?_
                    exact ih (mpn_229, mkn_229, mvn_229, mbn_229, mwn_229, frn_229) _ _ _ (ms_n hRK.2.2.2.2.1 hR_229.2.2.2.2.1 hlt_229) ⟨lv_sub hl [0, 1] rfl, hP.sub (ws' := [(xo_8_rrriirrriiiiiiirrirrrrri mo m_la m_sz m_it ms mt m_st m_mv m_tp (nI mz) ml (nI mpn_229) mkn_229 mvn_229 mbn_229 mwn_229 m_rd m_ac (nI ma) m_as m_wo m_ik m_ke m_tr (nI mx)), (xI m_tp cI 120 ft_), (xI m_rd cI 38 frn_229)]) [0, 1, 2] rfl, hD.sub (ws' := [(xo_8_rrriirrriiiiiiirrirrrrri mo m_la m_sz m_it ms mt m_st m_mv m_tp (nI mz) ml (nI mpn_229) mkn_229 mvn_229 mbn_229 mwn_229 m_rd m_ac (nI ma) m_as m_wo m_ik m_ke m_tr (nI mx)), (xI m_tp cI 120 ft_), (xI m_rd cI 38 frn_229)]) [0, 1, 2] (by decide +kernel) rfl, hS, ⟨(K_ + 1), hR_229, (lf_X8_readLevel_34 hmz hu_10 Lr hF_11_0 hF_11_1 hF_12_0 hF_12_1 hF_12_2 f_12_1_0 La hF_15_0 hF_15_2 hF_15_3 hF_15_4 f_15_1_0 hR_15 Lb L0 e_19 hF_20_0 hF_20_2 hF_20_3 hF_20_4 f_20_1_0 hR_20 Lc hF_23_0 hF_23_2 hF_23_3 hF_23_4 f_23_1_0 hR_23 Ld hF_26_0 hF_26_2 hF_26_3 f_26_1_0 hR_26 Le hnb_w_107 hW6 hLw c_198 LW hnb_w_207 hK6 hLs L4 L5 c_228 hF_229_0 hF_229_2 hF_229_3 f_229_1_0 hR_229)⟩, (by omega)⟩
                · skip
                  refine lv_aload_n hx hb dX8_readLevel_143 rfl (lv_at hl 1 rfl) ?_
                  refine va_get (D := (dC, dI)) (ci := 8) (v := .ref m_rd) (C := RX8) (T := TX8) (N := 24) hx hb hts i_X8_readLevel_X8 hown hK hP 0 rfl rfl 15 (by decide) (hts _ mx_X8_readLevel_2) (fun _ h9 => h9) rfl dX8_readLevel_144 ?_
                  refine lv_iconst (v := 4) hx hb dX8_readLevel_147 (by decide) ?_
                  refine va_iald hx hb hK hP 2 0 rfl rfl (by unfold vp_in; decide) dX8_readLevel_148 ?_
                  refine lv_topi (fun v_231 e_231 => ?_)
                  obtain rfl : v_231 = (nI K_) := (e_231).trans hRK.2.2.2.2.1
                  refine lv_if_ne (tgt := 160) hx hb dX8_readLevel_149 (by decide) (fun c_232 => ?_) (fun c_232 => ?_)
                  · have c_232 : ¬ (K_ = 0) := fun q_ => c_232 ((nI_eq (a := K_) (b := 0) (by omega) (by omega)).mpr q_)
                    have Lx : rR ft_ mz = (((w_208, w_209, w_210, w_207), m38 w_212), 0) := (lf_X8_readLevel_35 hmz hu_10 Lr hF_11_0 hF_11_1 hF_12_0 hF_12_1 hF_12_2 f_12_1_0 La hF_15_0 hF_15_2 hF_15_3 hF_15_4 f_15_1_0 hR_15 Lb L0 e_19 hF_20_0 hF_20_2 hF_20_3 hF_20_4 f_20_1_0 hR_20 Lc hF_23_0 hF_23_2 hF_23_3 hF_23_4 f_23_1_0 hR_23 Ld hF_26_0 hF_26_2 hF_26_3 f_26_1_0 hR_26 Le hnb_w_107 hW6 hLw c_198 LW hnb_w_207 hK6 hLs L4 L5 c_228 c_232)
                    refine lv_iload_n hx hb dX8_readLevel_160 rfl (lv_at hl 0 rfl) ?_
                    have hX9 := cut2 (wc := [(xo_8_rrriirrriiiiiiirrirrrrri mo m_la m_sz m_it ms mt m_st m_mv m_tp (nI mz) ml (nI w_207) w_208 w_209 w_210 w_211 m_rd m_ac (nI ma) m_as m_wo m_ik m_ke m_tr (nI mx)), (xI m_tp cI 120 ft_), (xI m_rd cI 38 w_212)]) hP hD [0, 1, 2] (by decide +kernel) rfl
                    exact W.zret (v := 1) hx hb hr (by decide) (fun t ht hW => ⟨⟨1, 1, rfl, ⟨rfl, Or.inr (⟨rfl, (lf_X8_readLevel_38 hmz hu_10 Lr hF_11_0 hF_11_1 hF_12_0 hF_12_1 hF_12_2 f_12_1_0 La hF_15_0 hF_15_2 hF_15_3 hF_15_4 f_15_1_0 hR_15 Lb L0 e_19 hF_20_0 hF_20_2 hF_20_3 hF_20_4 f_20_1_0 hR_20 Lc hF_23_0 hF_23_2 hF_23_3 hF_23_4 f_23_1_0 hR_23 Ld hF_26_0 hF_26_2 hF_26_3 f_26_1_0 hR_26 Le hnb_w_107 hW6 hLw c_198 LW hnb_w_207 hK6 hLs L4 L5 c_228 c_232 Lx)⟩)⟩, ⟨w_208, w_209, w_210, w_207, w_211, w_212, W_, K_, va_Ht ht hX9.1, hX9.2, (by omega), (fun _ => ⟨okR_M hRK (by omega) (by omega) (by omega), by omega⟩), (lf_X8_readLevel_36 hmz hu_10 Lr hF_11_0 hF_11_1 hF_12_0 hF_12_1 hF_12_2 f_12_1_0 La hF_15_0 hF_15_2 hF_15_3 hF_15_4 f_15_1_0 hR_15 Lb L0 e_19 hF_20_0 hF_20_2 hF_20_3 hF_20_4 f_20_1_0 hR_20 Lc hF_23_0 hF_23_2 hF_23_3 hF_23_4 f_23_1_0 hR_23 Ld hF_26_0 hF_26_2 hF_26_3 f_26_1_0 hR_26 Le hnb_w_107 hW6 hLw c_198 LW hnb_w_207 hK6 hLs L4 L5 c_228 c_232 Lx), (lf_X8_readLevel_37 hmz hu_10 Lr hF_11_0 hF_11_1 hF_12_0 hF_12_1 hF_12_2 f_12_1_0 La hF_15_0 hF_15_2 hF_15_3 hF_15_4 f_15_1_0 hR_15 Lb L0 e_19 hF_20_0 hF_20_2 hF_20_3 hF_20_4 f_20_1_0 hR_20 Lc hF_23_0 hF_23_2 hF_23_3 hF_23_4 f_23_1_0 hR_23 Ld hF_26_0 hF_26_2 hF_26_3 f_26_1_0 hR_26 Le hnb_w_107 hW6 hLw c_198 LW hnb_w_207 hK6 hLs L4 L5 c_228 c_232 Lx)⟩⟩, hS.F ht⟩) hS.2.2 dX8_readLevel_161
                  · have c_232 : K_ = 0 := (nI_eq (a := K_) (b := 0) (by omega) (by omega)).mp c_232
                    refine lv_aload_n hx hb dX8_readLevel_152 rfl (lv_at hl 1 rfl) ?_
                    have hc_233 := cutW (wc := [(xo_8_rrriirrriiiiiiirrirrrrri mo m_la m_sz m_it ms mt m_st m_mv m_tp (nI mz) ml (nI w_207) w_208 w_209 w_210 w_211 m_rd m_ac (nI ma) m_as m_wo m_ik m_ke m_tr (nI mx)), (xI m_tp cI 120 ft_), (xI m_rd cI 38 w_212)]) hP hD hS hA [0, 1, 2] (by decide +kernel) rfl
                    refine va_calli (va_runV (As := []) (rest := []) ⟨hx, hb, hml, hown, hts⟩ (r_X8_readSound l dC dI cI cZ cL cJ H.size mo m_la m_sz m_it m_st m_mv m_tp m_rd m_ac m_as m_wo m_ik m_ke m_tr ms mt ml w_208 w_209 w_210 w_211 mz w_207 ma mx ft_ w_212 cq W_ K_ (by omega) (hmz) (hRK)) (cwV 0 hts gX8_readLevel_X8_readSound rfl rfl rfl (by decide +kernel) ⟨Nat.le_of_ble_eq_true rfl, Nat.le_of_ble_eq_true rfl⟩) (pvW 8 0 hK hP rfl rfl hc_233) rfl rfl hl.1 rfl (lv_room (Nat.le_of_ble_eq_true rfl)) dX8_readLevel_153 ⟨Nat.le_of_ble_eq_true rfl, Nat.le_of_ble_eq_true rfl⟩) hS (fun q _ h => hc_233.2.2 q h) hc_233.2.2 (fun r_233 u_233 t_233 H1 locs ht hvm h_233 hB hz1 hk1 hS => ?_)
                    refine xl_6_6 hB (fun mkn_233 mvn_233 mbn_233 mpn_233 mwn_233 frn_233 hP1 hD1 hF_233_0 hF_233_1 hF_233_2 hF_233_3 => ?_)
                    clear hB
                    rw [ht] at hP1
                    obtain ⟨hu_233, h_233⟩ := h_233
                    subst hu_233
                    obtain ⟨hP, hD⟩ := va_join (wr := []) (w1 := [(xo_8_rrriirrriiiiiiirrirrrrri mo m_la m_sz m_it ms mt m_st m_mv m_tp (nI mz) ml (nI mpn_233) mkn_233 mvn_233 mbn_233 mwn_233 m_rd m_ac (nI ma) m_as m_wo m_ik m_ke m_tr (nI mx)), (xI m_tp cI 120 ft_), (xI m_rd cI 38 frn_233)]) hP hD [0, 1, 2] [] rfl rfl (by decide +kernel) (by decide +kernel) hk1 hc_233.2.2 hP1 hD1
                    generalize H1 = H at hP hS ⊢
                    have hP : va_P (dC, dI) vwCl [(xo_8_rrriirrriiiiiiirrirrrrri mo m_la m_sz m_it ms mt m_st m_mv m_tp (nI mz) ml (nI mpn_233) mkn_233 mvn_233 mbn_233 mwn_233 m_rd m_ac (nI ma) m_as m_wo m_ik m_ke m_tr (nI mx)), (xI m_tp cI 120 ft_), (xI m_rd cI 38 frn_233)] H := hP
                    have hD := dto hP hD
                    rcases h_233 with ⟨h_233, f_233_0_0⟩ | ⟨h_233, f_233_1_0⟩
                    · subst h_233
                      have Lx : rR ft_ mz = (((mkn_233, mvn_233, mbn_233, mpn_233), m38 frn_233), sE ft_ mz ((w_208, w_209, w_210, w_207), m38 w_212)) := (lf_X8_readLevel_39 hmz hu_10 Lr hF_11_0 hF_11_1 hF_12_0 hF_12_1 hF_12_2 f_12_1_0 La hF_15_0 hF_15_2 hF_15_3 hF_15_4 f_15_1_0 hR_15 Lb L0 e_19 hF_20_0 hF_20_2 hF_20_3 hF_20_4 f_20_1_0 hR_20 Lc hF_23_0 hF_23_2 hF_23_3 hF_23_4 f_23_1_0 hR_23 Ld hF_26_0 hF_26_2 hF_26_3 f_26_1_0 hR_26 Le hnb_w_107 hW6 hLw c_198 LW hnb_w_207 hK6 hLs L4 L5 c_228 c_232 hF_233_0 hF_233_2 hF_233_3 f_233_0_0)
                      have Ln : ¬ sE ft_ mz ((w_208, w_209, w_210, w_207), m38 w_212) = 0 := sE_nz _ _ _
                      refine lv_istore_n (lv' := [(1, .int 0), (0, .ref mo)]) hx hb dX8_readLevel_156 rfl hl (by decide) rfl (fun ls hl => ?_)
                      refine lv_goto (tgt := 131) hx hb dX8_readLevel_157 (by decide) ?_
                      refine lv_iload_n hx hb dX8_readLevel_131 rfl (lv_at hl 0 rfl) ?_
                      refine lv_if_eq (tgt := 160) hx hb dX8_readLevel_132 (by decide) (fun _ => ?_) (fun c_ => absurd (by decide) c_)
                      refine lv_iload_n hx hb dX8_readLevel_160 rfl (lv_at hl 0 rfl) ?_
                      have hX9 := cut2 (wc := [(xo_8_rrriirrriiiiiiirrirrrrri mo m_la m_sz m_it ms mt m_st m_mv m_tp (nI mz) ml (nI mpn_233) mkn_233 mvn_233 mbn_233 mwn_233 m_rd m_ac (nI ma) m_as m_wo m_ik m_ke m_tr (nI mx)), (xI m_tp cI 120 ft_), (xI m_rd cI 38 frn_233)]) hP hD [0, 1, 2] (by decide +kernel) rfl
                      exact W.zret (v := 0) hx hb hr (by decide) (fun t ht hW => ⟨⟨0, 0, rfl, ⟨rfl, Or.inl (⟨rfl, (lf_X8_readLevel_42 hmz hu_10 Lr hF_11_0 hF_11_1 hF_12_0 hF_12_1 hF_12_2 f_12_1_0 La hF_15_0 hF_15_2 hF_15_3 hF_15_4 f_15_1_0 hR_15 Lb L0 e_19 hF_20_0 hF_20_2 hF_20_3 hF_20_4 f_20_1_0 hR_20 Lc hF_23_0 hF_23_2 hF_23_3 hF_23_4 f_23_1_0 hR_23 Ld hF_26_0 hF_26_2 hF_26_3 f_26_1_0 hR_26 Le hnb_w_107 hW6 hLw c_198 LW hnb_w_207 hK6 hLs L4 L5 c_228 c_232 hF_233_0 hF_233_2 hF_233_3 f_233_0_0 Lx Ln)⟩)⟩, ⟨mkn_233, mvn_233, mbn_233, mpn_233, mwn_233, frn_233, 0, 0, va_Ht ht hX9.1, hX9.2, (by omega), (fun h_ => absurd h_ (by decide)), (lf_X8_readLevel_40 hmz hu_10 Lr hF_11_0 hF_11_1 hF_12_0 hF_12_1 hF_12_2 f_12_1_0 La hF_15_0 hF_15_2 hF_15_3 hF_15_4 f_15_1_0 hR_15 Lb L0 e_19 hF_20_0 hF_20_2 hF_20_3 hF_20_4 f_20_1_0 hR_20 Lc hF_23_0 hF_23_2 hF_23_3 hF_23_4 f_23_1_0 hR_23 Ld hF_26_0 hF_26_2 hF_26_3 f_26_1_0 hR_26 Le hnb_w_107 hW6 hLw c_198 LW hnb_w_207 hK6 hLs L4 L5 c_228 c_232 hF_233_0 hF_233_2 hF_233_3 f_233_0_0 Lx Ln), (lf_X8_readLevel_41 hmz hu_10 Lr hF_11_0 hF_11_1 hF_12_0 hF_12_1 hF_12_2 f_12_1_0 La hF_15_0 hF_15_2 hF_15_3 hF_15_4 f_15_1_0 hR_15 Lb L0 e_19 hF_20_0 hF_20_2 hF_20_3 hF_20_4 f_20_1_0 hR_20 Lc hF_23_0 hF_23_2 hF_23_3 hF_23_4 f_23_1_0 hR_23 Ld hF_26_0 hF_26_2 hF_26_3 f_26_1_0 hR_26 Le hnb_w_107 hW6 hLw c_198 LW hnb_w_207 hK6 hLs L4 L5 c_228 c_232 hF_233_0 hF_233_2 hF_233_3 f_233_0_0 Lx Ln)⟩⟩, hS.F ht⟩) hS.2.2 dX8_readLevel_161
                    · subst h_233
                      obtain ⟨hR_233, hlt_233⟩ := hF_233_1 rfl
                      refine lv_istore_n (lv' := [(1, .int 1), (0, .ref mo)]) hx hb dX8_readLevel_156 rfl hl (by decide) rfl (fun ls hl => ?_)
                      refine lv_goto (tgt := 131) hx hb dX8_readLevel_157 (by decide) ?_
                      exact ih (mpn_233, mkn_233, mvn_233, mbn_233, mwn_233, frn_233) _ _ _ (ms_n hRK.2.2.2.2.1 hR_233.2.2.2.2.1 hlt_233) ⟨lv_sub hl [0, 1] rfl, hP.sub (ws' := [(xo_8_rrriirrriiiiiiirrirrrrri mo m_la m_sz m_it ms mt m_st m_mv m_tp (nI mz) ml (nI mpn_233) mkn_233 mvn_233 mbn_233 mwn_233 m_rd m_ac (nI ma) m_as m_wo m_ik m_ke m_tr (nI mx)), (xI m_tp cI 120 ft_), (xI m_rd cI 38 frn_233)]) [0, 1, 2] rfl, hD.sub (ws' := [(xo_8_rrriirrriiiiiiirrirrrrri mo m_la m_sz m_it ms mt m_st m_mv m_tp (nI mz) ml (nI mpn_233) mkn_233 mvn_233 mbn_233 mwn_233 m_rd m_ac (nI ma) m_as m_wo m_ik m_ke m_tr (nI mx)), (xI m_tp cI 120 ft_), (xI m_rd cI 38 frn_233)]) [0, 1, 2] (by decide +kernel) rfl, hS, ⟨(K_ + 1), hR_233, (lf_X8_readLevel_43 hmz hu_10 Lr hF_11_0 hF_11_1 hF_12_0 hF_12_1 hF_12_2 f_12_1_0 La hF_15_0 hF_15_2 hF_15_3 hF_15_4 f_15_1_0 hR_15 Lb L0 e_19 hF_20_0 hF_20_2 hF_20_3 hF_20_4 f_20_1_0 hR_20 Lc hF_23_0 hF_23_2 hF_23_3 hF_23_4 f_23_1_0 hR_23 Ld hF_26_0 hF_26_2 hF_26_3 f_26_1_0 hR_26 Le hnb_w_107 hW6 hLw c_198 LW hnb_w_207 hK6 hLs L4 L5 c_228 c_232 hF_233_0 hF_233_2 hF_233_3 f_233_1_0 hR_233)⟩, (by omega)⟩
              · skip
                refine lv_aload_n hx hb dX8_readLevel_114 rfl (lv_at hl 1 rfl) ?_
                refine va_get (D := (dC, dI)) (ci := 8) (v := .int w_109) (C := RX8) (T := TX8) (N := 24) hx hb hts i_X8_readLevel_X8 hown hK hP 0 rfl rfl 12 (by decide) (hts _ mx_X8_readLevel_4) (fun _ h9 => h9) rfl dX8_readLevel_115 ?_
                refine lv_bipush (v := 119) hx hb dX8_readLevel_118 (by decide) ?_
                refine lv_icmp_ne (tgt := 131) hx hb dX8_readLevel_120 (by decide) (fun c_235 => ?_) (fun c_235 => ?_)
                · skip
                  have LW : wL ft_ mz 6 (lRe ft_ mz) = (((w_108, w_109, w_110, w_107), m38 w_112), 0) := (lf_X8_readLevel_44 hmz hu_10 Lr hF_11_0 hF_11_1 hF_12_0 hF_12_1 hF_12_2 f_12_1_0 La hF_15_0 hF_15_2 hF_15_3 hF_15_4 f_15_1_0 hR_15 Lb L0 e_19 hF_20_0 hF_20_2 hF_20_3 hF_20_4 f_20_1_0 hR_20 Lc hF_23_0 hF_23_2 hF_23_3 hF_23_4 f_23_1_0 hR_23 Ld hF_26_0 hF_26_2 hF_26_3 f_26_1_0 hR_26 Le hnb_w_107 hW6 hLw c_198 c_235)
                  refine lp_ms (σ := (Nat) × (Int32) × (Int32) × (Int32) × (Int32) × (Nat → Int32)) (fun (st : (Nat) × (Int32) × (Int32) × (Int32) × (Int32) × (Nat → Int32)) H locs ls => match st with | (w_244, w_245, w_246, w_247, w_248, w_249) => lv_has ls 2 [(1, .int 1), (0, .ref mo)] ∧ va_P (dC, dI) vwCl [(xo_8_rrriirrriiiiiiirrirrrrri mo m_la m_sz m_it ms mt m_st m_mv m_tp (nI mz) ml (nI w_244) w_245 w_246 w_247 w_248 m_rd m_ac (nI ma) m_as m_wo m_ik m_ke m_tr (nI mx)), (xI m_tp cI 120 ft_), (xI m_rd cI 38 w_249)] H ∧ va_D A [(xo_8_rrriirrriiiiiiirrirrrrri mo m_la m_sz m_it ms mt m_st m_mv m_tp (nI mz) ml (nI w_244) w_245 w_246 w_247 w_248 m_rd m_ac (nI ma) m_as m_wo m_ik m_ke m_tr (nI mx)), (xI m_tp cI 120 ft_), (xI m_rd cI 38 w_249)] ∧ va_S A s.heap H locs ∧ (∃ K : Nat, okR w_249 cq W_ K K ∧ sL ft_ mz (7 - K) (((w_245, w_246, w_247, w_244), m38 w_249), 0) = rR ft_ mz) ∧ w_244 ≤ mz) (fun (st : (Nat) × (Int32) × (Int32) × (Int32) × (Int32) × (Nat → Int32)) => match st with | (w_244, w_245, w_246, w_247, w_248, w_249) => 6 - (w_249 4).toNatClampNeg) ?_ (w_107, w_108, w_109, w_110, w_111, w_112) ⟨lv_sub hl [0, 1] rfl, hP.sub (ws' := [(xo_8_rrriirrriiiiiiirrirrrrri mo m_la m_sz m_it ms mt m_st m_mv m_tp (nI mz) ml (nI w_107) w_108 w_109 w_110 w_111 m_rd m_ac (nI ma) m_as m_wo m_ik m_ke m_tr (nI mx)), (xI m_tp cI 120 ft_), (xI m_rd cI 38 w_112)]) [0, 1, 2] rfl, hD.sub (ws' := [(xo_8_rrriirrriiiiiiirrirrrrri mo m_la m_sz m_it ms mt m_st m_mv m_tp (nI mz) ml (nI w_107) w_108 w_109 w_110 w_111 m_rd m_ac (nI ma) m_as m_wo m_ik m_ke m_tr (nI mx)), (xI m_tp cI 120 ft_), (xI m_rd cI 38 w_112)]) [0, 1, 2] (by decide +kernel) rfl, hS, ⟨0, hRW, (lf_X8_readLevel_45 hmz hu_10 Lr hF_11_0 hF_11_1 hF_12_0 hF_12_1 hF_12_2 f_12_1_0 La hF_15_0 hF_15_2 hF_15_3 hF_15_4 f_15_1_0 hR_15 Lb L0 e_19 hF_20_0 hF_20_2 hF_20_3 hF_20_4 f_20_1_0 hR_20 Lc hF_23_0 hF_23_2 hF_23_3 hF_23_4 f_23_1_0 hR_23 Ld hF_26_0 hF_26_2 hF_26_3 f_26_1_0 hR_26 Le hnb_w_107 hW6 hLw c_198 c_235 LW)⟩, (by omega)⟩
                  rintro ⟨w_244, w_245, w_246, w_247, w_248, w_249⟩ H locs ls ⟨hl, hP, hD, hS, haf_0, hnb_w_244⟩ ih
                  obtain ⟨K_, hRK, hLs⟩ := haf_0
                  have hK6 := hRK.2.2.2.2.2.1
                  have L4 : m38 w_249 4 = nI K_ := (m38_at (by decide)).trans hRK.2.2.2.2.1
                  have L5 : (nI K_ = 0 ↔ K_ = 0) := nI_eq (b := 0) (by omega) (by decide)
                  refine lv_iload_n hx hb dX8_readLevel_131 rfl (lv_at hl 0 rfl) ?_
                  refine lv_if_eq (tgt := 160) hx hb dX8_readLevel_132 (by decide) (fun c_ => absurd c_ (by decide)) (fun _ => ?_)
                  refine lv_aload_n hx hb dX8_readLevel_135 rfl (lv_at hl 1 rfl) ?_
                  refine va_get (D := (dC, dI)) (ci := 8) (v := .int w_245) (C := RX8) (T := TX8) (N := 24) hx hb hts i_X8_readLevel_X8 hown hK hP 0 rfl rfl 11 (by decide) (hts _ mx_X8_readLevel_3) (fun _ h9 => h9) rfl dX8_readLevel_136 ?_
                  refine lv_iconst (v := 3) hx hb dX8_readLevel_139 (by decide) ?_
                  refine lv_icmp_ne (tgt := 152) hx hb dX8_readLevel_140 (by decide) (fun c_265 => ?_) (fun c_265 => ?_)
                  · skip
                    refine lv_aload_n hx hb dX8_readLevel_152 rfl (lv_at hl 1 rfl) ?_
                    have hc_266 := cutW (wc := [(xo_8_rrriirrriiiiiiirrirrrrri mo m_la m_sz m_it ms mt m_st m_mv m_tp (nI mz) ml (nI w_244) w_245 w_246 w_247 w_248 m_rd m_ac (nI ma) m_as m_wo m_ik m_ke m_tr (nI mx)), (xI m_tp cI 120 ft_), (xI m_rd cI 38 w_249)]) hP hD hS hA [0, 1, 2] (by decide +kernel) rfl
                    refine va_calli (va_runV (As := []) (rest := []) ⟨hx, hb, hml, hown, hts⟩ (r_X8_readSound l dC dI cI cZ cL cJ H.size mo m_la m_sz m_it m_st m_mv m_tp m_rd m_ac m_as m_wo m_ik m_ke m_tr ms mt ml w_245 w_246 w_247 w_248 mz w_244 ma mx ft_ w_249 cq W_ K_ (by omega) (hmz) (hRK)) (cwV 0 hts gX8_readLevel_X8_readSound rfl rfl rfl (by decide +kernel) ⟨Nat.le_of_ble_eq_true rfl, Nat.le_of_ble_eq_true rfl⟩) (pvW 8 0 hK hP rfl rfl hc_266) rfl rfl hl.1 rfl (lv_room (Nat.le_of_ble_eq_true rfl)) dX8_readLevel_153 ⟨Nat.le_of_ble_eq_true rfl, Nat.le_of_ble_eq_true rfl⟩) hS (fun q _ h => hc_266.2.2 q h) hc_266.2.2 (fun r_266 u_266 t_266 H1 locs ht hvm h_266 hB hz1 hk1 hS => ?_)
                    refine xl_6_6 hB (fun mkn_266 mvn_266 mbn_266 mpn_266 mwn_266 frn_266 hP1 hD1 hF_266_0 hF_266_1 hF_266_2 hF_266_3 => ?_)
                    clear hB
                    rw [ht] at hP1
                    obtain ⟨hu_266, h_266⟩ := h_266
                    subst hu_266
                    obtain ⟨hP, hD⟩ := va_join (wr := []) (w1 := [(xo_8_rrriirrriiiiiiirrirrrrri mo m_la m_sz m_it ms mt m_st m_mv m_tp (nI mz) ml (nI mpn_266) mkn_266 mvn_266 mbn_266 mwn_266 m_rd m_ac (nI ma) m_as m_wo m_ik m_ke m_tr (nI mx)), (xI m_tp cI 120 ft_), (xI m_rd cI 38 frn_266)]) hP hD [0, 1, 2] [] rfl rfl (by decide +kernel) (by decide +kernel) hk1 hc_266.2.2 hP1 hD1
                    generalize H1 = H at hP hS ⊢
                    have hP : va_P (dC, dI) vwCl [(xo_8_rrriirrriiiiiiirrirrrrri mo m_la m_sz m_it ms mt m_st m_mv m_tp (nI mz) ml (nI mpn_266) mkn_266 mvn_266 mbn_266 mwn_266 m_rd m_ac (nI ma) m_as m_wo m_ik m_ke m_tr (nI mx)), (xI m_tp cI 120 ft_), (xI m_rd cI 38 frn_266)] H := hP
                    have hD := dto hP hD
                    rcases h_266 with ⟨h_266, f_266_0_0⟩ | ⟨h_266, f_266_1_0⟩
                    · subst h_266
                      have Lx : rR ft_ mz = (((mkn_266, mvn_266, mbn_266, mpn_266), m38 frn_266), sE ft_ mz ((w_245, w_246, w_247, w_244), m38 w_249)) := (lf_X8_readLevel_46 hmz hu_10 Lr hF_11_0 hF_11_1 hF_12_0 hF_12_1 hF_12_2 f_12_1_0 La hF_15_0 hF_15_2 hF_15_3 hF_15_4 f_15_1_0 hR_15 Lb L0 e_19 hF_20_0 hF_20_2 hF_20_3 hF_20_4 f_20_1_0 hR_20 Lc hF_23_0 hF_23_2 hF_23_3 hF_23_4 f_23_1_0 hR_23 Ld hF_26_0 hF_26_2 hF_26_3 f_26_1_0 hR_26 Le hnb_w_107 hW6 hLw c_198 c_235 LW hnb_w_244 hK6 hLs L4 L5 c_265 hF_266_0 hF_266_2 hF_266_3 f_266_0_0)
                      have Ln : ¬ sE ft_ mz ((w_245, w_246, w_247, w_244), m38 w_249) = 0 := sE_nz _ _ _
                      refine lv_istore_n (lv' := [(1, .int 0), (0, .ref mo)]) hx hb dX8_readLevel_156 rfl hl (by decide) rfl (fun ls hl => ?_)
                      refine lv_goto (tgt := 131) hx hb dX8_readLevel_157 (by decide) ?_
                      refine lv_iload_n hx hb dX8_readLevel_131 rfl (lv_at hl 0 rfl) ?_
                      refine lv_if_eq (tgt := 160) hx hb dX8_readLevel_132 (by decide) (fun _ => ?_) (fun c_ => absurd (by decide) c_)
                      refine lv_iload_n hx hb dX8_readLevel_160 rfl (lv_at hl 0 rfl) ?_
                      have hX9 := cut2 (wc := [(xo_8_rrriirrriiiiiiirrirrrrri mo m_la m_sz m_it ms mt m_st m_mv m_tp (nI mz) ml (nI mpn_266) mkn_266 mvn_266 mbn_266 mwn_266 m_rd m_ac (nI ma) m_as m_wo m_ik m_ke m_tr (nI mx)), (xI m_tp cI 120 ft_), (xI m_rd cI 38 frn_266)]) hP hD [0, 1, 2] (by decide +kernel) rfl
                      exact W.zret (v := 0) hx hb hr (by decide) (fun t ht hW => ⟨⟨0, 0, rfl, ⟨rfl, Or.inl (⟨rfl, (lf_X8_readLevel_49 hmz hu_10 Lr hF_11_0 hF_11_1 hF_12_0 hF_12_1 hF_12_2 f_12_1_0 La hF_15_0 hF_15_2 hF_15_3 hF_15_4 f_15_1_0 hR_15 Lb L0 e_19 hF_20_0 hF_20_2 hF_20_3 hF_20_4 f_20_1_0 hR_20 Lc hF_23_0 hF_23_2 hF_23_3 hF_23_4 f_23_1_0 hR_23 Ld hF_26_0 hF_26_2 hF_26_3 f_26_1_0 hR_26 Le hnb_w_107 hW6 hLw c_198 c_235 LW hnb_w_244 hK6 hLs L4 L5 c_265 hF_266_0 hF_266_2 hF_266_3 f_266_0_0 Lx Ln)⟩)⟩, ⟨mkn_266, mvn_266, mbn_266, mpn_266, mwn_266, frn_266, 0, 0, va_Ht ht hX9.1, hX9.2, (by omega), (fun h_ => absurd h_ (by decide)), (lf_X8_readLevel_47 hmz hu_10 Lr hF_11_0 hF_11_1 hF_12_0 hF_12_1 hF_12_2 f_12_1_0 La hF_15_0 hF_15_2 hF_15_3 hF_15_4 f_15_1_0 hR_15 Lb L0 e_19 hF_20_0 hF_20_2 hF_20_3 hF_20_4 f_20_1_0 hR_20 Lc hF_23_0 hF_23_2 hF_23_3 hF_23_4 f_23_1_0 hR_23 Ld hF_26_0 hF_26_2 hF_26_3 f_26_1_0 hR_26 Le hnb_w_107 hW6 hLw c_198 c_235 LW hnb_w_244 hK6 hLs L4 L5 c_265 hF_266_0 hF_266_2 hF_266_3 f_266_0_0 Lx Ln), (lf_X8_readLevel_48 hmz hu_10 Lr hF_11_0 hF_11_1 hF_12_0 hF_12_1 hF_12_2 f_12_1_0 La hF_15_0 hF_15_2 hF_15_3 hF_15_4 f_15_1_0 hR_15 Lb L0 e_19 hF_20_0 hF_20_2 hF_20_3 hF_20_4 f_20_1_0 hR_20 Lc hF_23_0 hF_23_2 hF_23_3 hF_23_4 f_23_1_0 hR_23 Ld hF_26_0 hF_26_2 hF_26_3 f_26_1_0 hR_26 Le hnb_w_107 hW6 hLw c_198 c_235 LW hnb_w_244 hK6 hLs L4 L5 c_265 hF_266_0 hF_266_2 hF_266_3 f_266_0_0 Lx Ln)⟩⟩, hS.F ht⟩) hS.2.2 dX8_readLevel_161
                    · subst h_266
                      obtain ⟨hR_266, hlt_266⟩ := hF_266_1 rfl
                      refine lv_istore_n (lv' := [(1, .int 1), (0, .ref mo)]) hx hb dX8_readLevel_156 rfl hl (by decide) rfl (fun ls hl => ?_)
                      refine lv_goto (tgt := 131) hx hb dX8_readLevel_157 (by decide) ?_
                      exact ih (mpn_266, mkn_266, mvn_266, mbn_266, mwn_266, frn_266) _ _ _ (ms_n hRK.2.2.2.2.1 hR_266.2.2.2.2.1 hlt_266) ⟨lv_sub hl [0, 1] rfl, hP.sub (ws' := [(xo_8_rrriirrriiiiiiirrirrrrri mo m_la m_sz m_it ms mt m_st m_mv m_tp (nI mz) ml (nI mpn_266) mkn_266 mvn_266 mbn_266 mwn_266 m_rd m_ac (nI ma) m_as m_wo m_ik m_ke m_tr (nI mx)), (xI m_tp cI 120 ft_), (xI m_rd cI 38 frn_266)]) [0, 1, 2] rfl, hD.sub (ws' := [(xo_8_rrriirrriiiiiiirrirrrrri mo m_la m_sz m_it ms mt m_st m_mv m_tp (nI mz) ml (nI mpn_266) mkn_266 mvn_266 mbn_266 mwn_266 m_rd m_ac (nI ma) m_as m_wo m_ik m_ke m_tr (nI mx)), (xI m_tp cI 120 ft_), (xI m_rd cI 38 frn_266)]) [0, 1, 2] (by decide +kernel) rfl, hS, ⟨(K_ + 1), hR_266, (lf_X8_readLevel_50 hmz hu_10 Lr hF_11_0 hF_11_1 hF_12_0 hF_12_1 hF_12_2 f_12_1_0 La hF_15_0 hF_15_2 hF_15_3 hF_15_4 f_15_1_0 hR_15 Lb L0 e_19 hF_20_0 hF_20_2 hF_20_3 hF_20_4 f_20_1_0 hR_20 Lc hF_23_0 hF_23_2 hF_23_3 hF_23_4 f_23_1_0 hR_23 Ld hF_26_0 hF_26_2 hF_26_3 f_26_1_0 hR_26 Le hnb_w_107 hW6 hLw c_198 c_235 LW hnb_w_244 hK6 hLs L4 L5 c_265 hF_266_0 hF_266_2 hF_266_3 f_266_1_0 hR_266)⟩, (by omega)⟩
                  · skip
                    refine lv_aload_n hx hb dX8_readLevel_143 rfl (lv_at hl 1 rfl) ?_
                    refine va_get (D := (dC, dI)) (ci := 8) (v := .ref m_rd) (C := RX8) (T := TX8) (N := 24) hx hb hts i_X8_readLevel_X8 hown hK hP 0 rfl rfl 15 (by decide) (hts _ mx_X8_readLevel_2) (fun _ h9 => h9) rfl dX8_readLevel_144 ?_
                    refine lv_iconst (v := 4) hx hb dX8_readLevel_147 (by decide) ?_
                    refine va_iald hx hb hK hP 2 0 rfl rfl (by unfold vp_in; decide) dX8_readLevel_148 ?_
                    refine lv_topi (fun v_268 e_268 => ?_)
                    obtain rfl : v_268 = (nI K_) := (e_268).trans hRK.2.2.2.2.1
                    refine lv_if_ne (tgt := 160) hx hb dX8_readLevel_149 (by decide) (fun c_269 => ?_) (fun c_269 => ?_)
                    · have c_269 : ¬ (K_ = 0) := fun q_ => c_269 ((nI_eq (a := K_) (b := 0) (by omega) (by omega)).mpr q_)
                      have Lx : rR ft_ mz = (((w_245, w_246, w_247, w_244), m38 w_249), 0) := (lf_X8_readLevel_51 hmz hu_10 Lr hF_11_0 hF_11_1 hF_12_0 hF_12_1 hF_12_2 f_12_1_0 La hF_15_0 hF_15_2 hF_15_3 hF_15_4 f_15_1_0 hR_15 Lb L0 e_19 hF_20_0 hF_20_2 hF_20_3 hF_20_4 f_20_1_0 hR_20 Lc hF_23_0 hF_23_2 hF_23_3 hF_23_4 f_23_1_0 hR_23 Ld hF_26_0 hF_26_2 hF_26_3 f_26_1_0 hR_26 Le hnb_w_107 hW6 hLw c_198 c_235 LW hnb_w_244 hK6 hLs L4 L5 c_265 c_269)
                      refine lv_iload_n hx hb dX8_readLevel_160 rfl (lv_at hl 0 rfl) ?_
                      have hX9 := cut2 (wc := [(xo_8_rrriirrriiiiiiirrirrrrri mo m_la m_sz m_it ms mt m_st m_mv m_tp (nI mz) ml (nI w_244) w_245 w_246 w_247 w_248 m_rd m_ac (nI ma) m_as m_wo m_ik m_ke m_tr (nI mx)), (xI m_tp cI 120 ft_), (xI m_rd cI 38 w_249)]) hP hD [0, 1, 2] (by decide +kernel) rfl
                      exact W.zret (v := 1) hx hb hr (by decide) (fun t ht hW => ⟨⟨1, 1, rfl, ⟨rfl, Or.inr (⟨rfl, (lf_X8_readLevel_54 hmz hu_10 Lr hF_11_0 hF_11_1 hF_12_0 hF_12_1 hF_12_2 f_12_1_0 La hF_15_0 hF_15_2 hF_15_3 hF_15_4 f_15_1_0 hR_15 Lb L0 e_19 hF_20_0 hF_20_2 hF_20_3 hF_20_4 f_20_1_0 hR_20 Lc hF_23_0 hF_23_2 hF_23_3 hF_23_4 f_23_1_0 hR_23 Ld hF_26_0 hF_26_2 hF_26_3 f_26_1_0 hR_26 Le hnb_w_107 hW6 hLw c_198 c_235 LW hnb_w_244 hK6 hLs L4 L5 c_265 c_269 Lx)⟩)⟩, ⟨w_245, w_246, w_247, w_244, w_248, w_249, W_, K_, va_Ht ht hX9.1, hX9.2, (by omega), (fun _ => ⟨okR_M hRK (by omega) (by omega) (by omega), by omega⟩), (lf_X8_readLevel_52 hmz hu_10 Lr hF_11_0 hF_11_1 hF_12_0 hF_12_1 hF_12_2 f_12_1_0 La hF_15_0 hF_15_2 hF_15_3 hF_15_4 f_15_1_0 hR_15 Lb L0 e_19 hF_20_0 hF_20_2 hF_20_3 hF_20_4 f_20_1_0 hR_20 Lc hF_23_0 hF_23_2 hF_23_3 hF_23_4 f_23_1_0 hR_23 Ld hF_26_0 hF_26_2 hF_26_3 f_26_1_0 hR_26 Le hnb_w_107 hW6 hLw c_198 c_235 LW hnb_w_244 hK6 hLs L4 L5 c_265 c_269 Lx), (lf_X8_readLevel_53 hmz hu_10 Lr hF_11_0 hF_11_1 hF_12_0 hF_12_1 hF_12_2 f_12_1_0 La hF_15_0 hF_15_2 hF_15_3 hF_15_4 f_15_1_0 hR_15 Lb L0 e_19 hF_20_0 hF_20_2 hF_20_3 hF_20_4 f_20_1_0 hR_20 Lc hF_23_0 hF_23_2 hF_23_3 hF_23_4 f_23_1_0 hR_23 Ld hF_26_0 hF_26_2 hF_26_3 f_26_1_0 hR_26 Le hnb_w_107 hW6 hLw c_198 c_235 LW hnb_w_244 hK6 hLs L4 L5 c_265 c_269 Lx)⟩⟩, hS.F ht⟩) hS.2.2 dX8_readLevel_161
                    · have c_269 : K_ = 0 := (nI_eq (a := K_) (b := 0) (by omega) (by omega)).mp c_269
                      refine lv_aload_n hx hb dX8_readLevel_152 rfl (lv_at hl 1 rfl) ?_
                      have hc_270 := cutW (wc := [(xo_8_rrriirrriiiiiiirrirrrrri mo m_la m_sz m_it ms mt m_st m_mv m_tp (nI mz) ml (nI w_244) w_245 w_246 w_247 w_248 m_rd m_ac (nI ma) m_as m_wo m_ik m_ke m_tr (nI mx)), (xI m_tp cI 120 ft_), (xI m_rd cI 38 w_249)]) hP hD hS hA [0, 1, 2] (by decide +kernel) rfl
                      refine va_calli (va_runV (As := []) (rest := []) ⟨hx, hb, hml, hown, hts⟩ (r_X8_readSound l dC dI cI cZ cL cJ H.size mo m_la m_sz m_it m_st m_mv m_tp m_rd m_ac m_as m_wo m_ik m_ke m_tr ms mt ml w_245 w_246 w_247 w_248 mz w_244 ma mx ft_ w_249 cq W_ K_ (by omega) (hmz) (hRK)) (cwV 0 hts gX8_readLevel_X8_readSound rfl rfl rfl (by decide +kernel) ⟨Nat.le_of_ble_eq_true rfl, Nat.le_of_ble_eq_true rfl⟩) (pvW 8 0 hK hP rfl rfl hc_270) rfl rfl hl.1 rfl (lv_room (Nat.le_of_ble_eq_true rfl)) dX8_readLevel_153 ⟨Nat.le_of_ble_eq_true rfl, Nat.le_of_ble_eq_true rfl⟩) hS (fun q _ h => hc_270.2.2 q h) hc_270.2.2 (fun r_270 u_270 t_270 H1 locs ht hvm h_270 hB hz1 hk1 hS => ?_)
                      refine xl_6_6 hB (fun mkn_270 mvn_270 mbn_270 mpn_270 mwn_270 frn_270 hP1 hD1 hF_270_0 hF_270_1 hF_270_2 hF_270_3 => ?_)
                      clear hB
                      rw [ht] at hP1
                      obtain ⟨hu_270, h_270⟩ := h_270
                      subst hu_270
                      obtain ⟨hP, hD⟩ := va_join (wr := []) (w1 := [(xo_8_rrriirrriiiiiiirrirrrrri mo m_la m_sz m_it ms mt m_st m_mv m_tp (nI mz) ml (nI mpn_270) mkn_270 mvn_270 mbn_270 mwn_270 m_rd m_ac (nI ma) m_as m_wo m_ik m_ke m_tr (nI mx)), (xI m_tp cI 120 ft_), (xI m_rd cI 38 frn_270)]) hP hD [0, 1, 2] [] rfl rfl (by decide +kernel) (by decide +kernel) hk1 hc_270.2.2 hP1 hD1
                      generalize H1 = H at hP hS ⊢
                      have hP : va_P (dC, dI) vwCl [(xo_8_rrriirrriiiiiiirrirrrrri mo m_la m_sz m_it ms mt m_st m_mv m_tp (nI mz) ml (nI mpn_270) mkn_270 mvn_270 mbn_270 mwn_270 m_rd m_ac (nI ma) m_as m_wo m_ik m_ke m_tr (nI mx)), (xI m_tp cI 120 ft_), (xI m_rd cI 38 frn_270)] H := hP
                      have hD := dto hP hD
                      rcases h_270 with ⟨h_270, f_270_0_0⟩ | ⟨h_270, f_270_1_0⟩
                      · subst h_270
                        have Lx : rR ft_ mz = (((mkn_270, mvn_270, mbn_270, mpn_270), m38 frn_270), sE ft_ mz ((w_245, w_246, w_247, w_244), m38 w_249)) := (lf_X8_readLevel_55 hmz hu_10 Lr hF_11_0 hF_11_1 hF_12_0 hF_12_1 hF_12_2 f_12_1_0 La hF_15_0 hF_15_2 hF_15_3 hF_15_4 f_15_1_0 hR_15 Lb L0 e_19 hF_20_0 hF_20_2 hF_20_3 hF_20_4 f_20_1_0 hR_20 Lc hF_23_0 hF_23_2 hF_23_3 hF_23_4 f_23_1_0 hR_23 Ld hF_26_0 hF_26_2 hF_26_3 f_26_1_0 hR_26 Le hnb_w_107 hW6 hLw c_198 c_235 LW hnb_w_244 hK6 hLs L4 L5 c_265 c_269 hF_270_0 hF_270_2 hF_270_3 f_270_0_0)
                        have Ln : ¬ sE ft_ mz ((w_245, w_246, w_247, w_244), m38 w_249) = 0 := sE_nz _ _ _
                        refine lv_istore_n (lv' := [(1, .int 0), (0, .ref mo)]) hx hb dX8_readLevel_156 rfl hl (by decide) rfl (fun ls hl => ?_)
                        refine lv_goto (tgt := 131) hx hb dX8_readLevel_157 (by decide) ?_
                        refine lv_iload_n hx hb dX8_readLevel_131 rfl (lv_at hl 0 rfl) ?_
                        refine lv_if_eq (tgt := 160) hx hb dX8_readLevel_132 (by decide) (fun _ => ?_) (fun c_ => absurd (by decide) c_)
                        refine lv_iload_n hx hb dX8_readLevel_160 rfl (lv_at hl 0 rfl) ?_
                        have hX9 := cut2 (wc := [(xo_8_rrriirrriiiiiiirrirrrrri mo m_la m_sz m_it ms mt m_st m_mv m_tp (nI mz) ml (nI mpn_270) mkn_270 mvn_270 mbn_270 mwn_270 m_rd m_ac (nI ma) m_as m_wo m_ik m_ke m_tr (nI mx)), (xI m_tp cI 120 ft_), (xI m_rd cI 38 frn_270)]) hP hD [0, 1, 2] (by decide +kernel) rfl
                        exact W.zret (v := 0) hx hb hr (by decide) (fun t ht hW => ⟨⟨0, 0, rfl, ⟨rfl, Or.inl (⟨rfl, (lf_X8_readLevel_58 hmz hu_10 Lr hF_11_0 hF_11_1 hF_12_0 hF_12_1 hF_12_2 f_12_1_0 La hF_15_0 hF_15_2 hF_15_3 hF_15_4 f_15_1_0 hR_15 Lb L0 e_19 hF_20_0 hF_20_2 hF_20_3 hF_20_4 f_20_1_0 hR_20 Lc hF_23_0 hF_23_2 hF_23_3 hF_23_4 f_23_1_0 hR_23 Ld hF_26_0 hF_26_2 hF_26_3 f_26_1_0 hR_26 Le hnb_w_107 hW6 hLw c_198 c_235 LW hnb_w_244 hK6 hLs L4 L5 c_265 c_269 hF_270_0 hF_270_2 hF_270_3 f_270_0_0 Lx Ln)⟩)⟩, ⟨mkn_270, mvn_270, mbn_270, mpn_270, mwn_270, frn_270, 0, 0, va_Ht ht hX9.1, hX9.2, (by omega), (fun h_ => absurd h_ (by decide)), (lf_X8_readLevel_56 hmz hu_10 Lr hF_11_0 hF_11_1 hF_12_0 hF_12_1 hF_12_2 f_12_1_0 La hF_15_0 hF_15_2 hF_15_3 hF_15_4 f_15_1_0 hR_15 Lb L0 e_19 hF_20_0 hF_20_2 hF_20_3 hF_20_4 f_20_1_0 hR_20 Lc hF_23_0 hF_23_2 hF_23_3 hF_23_4 f_23_1_0 hR_23 Ld hF_26_0 hF_26_2 hF_26_3 f_26_1_0 hR_26 Le hnb_w_107 hW6 hLw c_198 c_235 LW hnb_w_244 hK6 hLs L4 L5 c_265 c_269 hF_270_0 hF_270_2 hF_270_3 f_270_0_0 Lx Ln), (lf_X8_readLevel_57 hmz hu_10 Lr hF_11_0 hF_11_1 hF_12_0 hF_12_1 hF_12_2 f_12_1_0 La hF_15_0 hF_15_2 hF_15_3 hF_15_4 f_15_1_0 hR_15 Lb L0 e_19 hF_20_0 hF_20_2 hF_20_3 hF_20_4 f_20_1_0 hR_20 Lc hF_23_0 hF_23_2 hF_23_3 hF_23_4 f_23_1_0 hR_23 Ld hF_26_0 hF_26_2 hF_26_3 f_26_1_0 hR_26 Le hnb_w_107 hW6 hLw c_198 c_235 LW hnb_w_244 hK6 hLs L4 L5 c_265 c_269 hF_270_0 hF_270_2 hF_270_3 f_270_0_0 Lx Ln)⟩⟩, hS.F ht⟩) hS.2.2 dX8_readLevel_161
                      · subst h_270
                        obtain ⟨hR_270, hlt_270⟩ := hF_270_1 rfl
                        refine lv_istore_n (lv' := [(1, .int 1), (0, .ref mo)]) hx hb dX8_readLevel_156 rfl hl (by decide) rfl (fun ls hl => ?_)
                        refine lv_goto (tgt := 131) hx hb dX8_readLevel_157 (by decide) ?_
                        exact ih (mpn_270, mkn_270, mvn_270, mbn_270, mwn_270, frn_270) _ _ _ (ms_n hRK.2.2.2.2.1 hR_270.2.2.2.2.1 hlt_270) ⟨lv_sub hl [0, 1] rfl, hP.sub (ws' := [(xo_8_rrriirrriiiiiiirrirrrrri mo m_la m_sz m_it ms mt m_st m_mv m_tp (nI mz) ml (nI mpn_270) mkn_270 mvn_270 mbn_270 mwn_270 m_rd m_ac (nI ma) m_as m_wo m_ik m_ke m_tr (nI mx)), (xI m_tp cI 120 ft_), (xI m_rd cI 38 frn_270)]) [0, 1, 2] rfl, hD.sub (ws' := [(xo_8_rrriirrriiiiiiirrirrrrri mo m_la m_sz m_it ms mt m_st m_mv m_tp (nI mz) ml (nI mpn_270) mkn_270 mvn_270 mbn_270 mwn_270 m_rd m_ac (nI ma) m_as m_wo m_ik m_ke m_tr (nI mx)), (xI m_tp cI 120 ft_), (xI m_rd cI 38 frn_270)]) [0, 1, 2] (by decide +kernel) rfl, hS, ⟨(K_ + 1), hR_270, (lf_X8_readLevel_59 hmz hu_10 Lr hF_11_0 hF_11_1 hF_12_0 hF_12_1 hF_12_2 f_12_1_0 La hF_15_0 hF_15_2 hF_15_3 hF_15_4 f_15_1_0 hR_15 Lb L0 e_19 hF_20_0 hF_20_2 hF_20_3 hF_20_4 f_20_1_0 hR_20 Lc hF_23_0 hF_23_2 hF_23_3 hF_23_4 f_23_1_0 hR_23 Ld hF_26_0 hF_26_2 hF_26_3 f_26_1_0 hR_26 Le hnb_w_107 hW6 hLw c_198 c_235 LW hnb_w_244 hK6 hLs L4 L5 c_265 c_269 hF_270_0 hF_270_2 hF_270_3 f_270_1_0 hR_270)⟩, (by omega)⟩
                · skip
                  refine lv_aload_n hx hb dX8_readLevel_123 rfl (lv_at hl 1 rfl) ?_
                  have hc_272 := cutW (wc := [(xo_8_rrriirrriiiiiiirrirrrrri mo m_la m_sz m_it ms mt m_st m_mv m_tp (nI mz) ml (nI w_107) w_108 w_109 w_110 w_111 m_rd m_ac (nI ma) m_as m_wo m_ik m_ke m_tr (nI mx)), (xI m_tp cI 120 ft_), (xI m_rd cI 38 w_112)]) hP hD hS hA [0, 1, 2] (by decide +kernel) rfl
                  refine va_calli (va_runV (As := []) (rest := []) ⟨hx, hb, hml, hown, hts⟩ (r_X8_readWind l dC dI cI cZ cL cJ H.size mo m_la m_sz m_it m_st m_mv m_tp m_rd m_ac m_as m_wo m_ik m_ke m_tr ms mt ml w_108 w_109 w_110 w_111 mz w_107 ma mx ft_ w_112 cq W_ 0 (by omega) (hmz) (hRW)) (cwV 0 hts gX8_readLevel_X8_readWind rfl rfl rfl (by decide +kernel) ⟨Nat.le_of_ble_eq_true rfl, Nat.le_of_ble_eq_true rfl⟩) (pvW 8 0 hK hP rfl rfl hc_272) rfl rfl hl.1 rfl (lv_room (Nat.le_of_ble_eq_true rfl)) dX8_readLevel_124 ⟨Nat.le_of_ble_eq_true rfl, Nat.le_of_ble_eq_true rfl⟩) hS (fun q _ h => hc_272.2.2 q h) hc_272.2.2 (fun r_272 u_272 t_272 H1 locs ht hvm h_272 hB hz1 hk1 hS => ?_)
                  refine xl_6_6 hB (fun mkn_272 mvn_272 mbn_272 mpn_272 mwn_272 frn_272 hP1 hD1 hF_272_0 hF_272_1 hF_272_2 hF_272_3 => ?_)
                  clear hB
                  rw [ht] at hP1
                  obtain ⟨hu_272, h_272⟩ := h_272
                  subst hu_272
                  obtain ⟨hP, hD⟩ := va_join (wr := []) (w1 := [(xo_8_rrriirrriiiiiiirrirrrrri mo m_la m_sz m_it ms mt m_st m_mv m_tp (nI mz) ml (nI mpn_272) mkn_272 mvn_272 mbn_272 mwn_272 m_rd m_ac (nI ma) m_as m_wo m_ik m_ke m_tr (nI mx)), (xI m_tp cI 120 ft_), (xI m_rd cI 38 frn_272)]) hP hD [0, 1, 2] [] rfl rfl (by decide +kernel) (by decide +kernel) hk1 hc_272.2.2 hP1 hD1
                  generalize H1 = H at hP hS ⊢
                  have hP : va_P (dC, dI) vwCl [(xo_8_rrriirrriiiiiiirrirrrrri mo m_la m_sz m_it ms mt m_st m_mv m_tp (nI mz) ml (nI mpn_272) mkn_272 mvn_272 mbn_272 mwn_272 m_rd m_ac (nI ma) m_as m_wo m_ik m_ke m_tr (nI mx)), (xI m_tp cI 120 ft_), (xI m_rd cI 38 frn_272)] H := hP
                  have hD := dto hP hD
                  rcases h_272 with ⟨h_272, f_272_0_0⟩ | ⟨h_272, f_272_1_0⟩
                  · subst h_272
                    have Lx : rR ft_ mz = (((mkn_272, mvn_272, mbn_272, mpn_272), m38 frn_272), wE ft_ mz ((w_108, w_109, w_110, w_107), m38 w_112)) := (lf_X8_readLevel_60 hmz hu_10 Lr hF_11_0 hF_11_1 hF_12_0 hF_12_1 hF_12_2 f_12_1_0 La hF_15_0 hF_15_2 hF_15_3 hF_15_4 f_15_1_0 hR_15 Lb L0 e_19 hF_20_0 hF_20_2 hF_20_3 hF_20_4 f_20_1_0 hR_20 Lc hF_23_0 hF_23_2 hF_23_3 hF_23_4 f_23_1_0 hR_23 Ld hF_26_0 hF_26_2 hF_26_3 f_26_1_0 hR_26 Le hnb_w_107 hW6 hLw c_198 c_235 hF_272_0 hF_272_2 hF_272_3 f_272_0_0)
                    have Ln : ¬ wE ft_ mz ((w_108, w_109, w_110, w_107), m38 w_112) = 0 := wE_nz _ _ _
                    refine lv_istore_n (lv' := [(1, .int 0), (0, .ref mo)]) hx hb dX8_readLevel_127 rfl hl (by decide) rfl (fun ls hl => ?_)
                    refine lv_goto (tgt := 102) hx hb dX8_readLevel_128 (by decide) ?_
                    refine lv_iload_n hx hb dX8_readLevel_102 rfl (lv_at hl 0 rfl) ?_
                    refine lv_if_eq (tgt := 131) hx hb dX8_readLevel_103 (by decide) (fun _ => ?_) (fun c_ => absurd (by decide) c_)
                    refine lv_iload_n hx hb dX8_readLevel_131 rfl (lv_at hl 0 rfl) ?_
                    refine lv_if_eq (tgt := 160) hx hb dX8_readLevel_132 (by decide) (fun _ => ?_) (fun c_ => absurd (by decide) c_)
                    refine lv_iload_n hx hb dX8_readLevel_160 rfl (lv_at hl 0 rfl) ?_
                    have hX9 := cut2 (wc := [(xo_8_rrriirrriiiiiiirrirrrrri mo m_la m_sz m_it ms mt m_st m_mv m_tp (nI mz) ml (nI mpn_272) mkn_272 mvn_272 mbn_272 mwn_272 m_rd m_ac (nI ma) m_as m_wo m_ik m_ke m_tr (nI mx)), (xI m_tp cI 120 ft_), (xI m_rd cI 38 frn_272)]) hP hD [0, 1, 2] (by decide +kernel) rfl
                    exact W.zret (v := 0) hx hb hr (by decide) (fun t ht hW => ⟨⟨0, 0, rfl, ⟨rfl, Or.inl (⟨rfl, (lf_X8_readLevel_63 hmz hu_10 Lr hF_11_0 hF_11_1 hF_12_0 hF_12_1 hF_12_2 f_12_1_0 La hF_15_0 hF_15_2 hF_15_3 hF_15_4 f_15_1_0 hR_15 Lb L0 e_19 hF_20_0 hF_20_2 hF_20_3 hF_20_4 f_20_1_0 hR_20 Lc hF_23_0 hF_23_2 hF_23_3 hF_23_4 f_23_1_0 hR_23 Ld hF_26_0 hF_26_2 hF_26_3 f_26_1_0 hR_26 Le hnb_w_107 hW6 hLw c_198 c_235 hF_272_0 hF_272_2 hF_272_3 f_272_0_0 Lx Ln)⟩)⟩, ⟨mkn_272, mvn_272, mbn_272, mpn_272, mwn_272, frn_272, 0, 0, va_Ht ht hX9.1, hX9.2, (by omega), (fun h_ => absurd h_ (by decide)), (lf_X8_readLevel_61 hmz hu_10 Lr hF_11_0 hF_11_1 hF_12_0 hF_12_1 hF_12_2 f_12_1_0 La hF_15_0 hF_15_2 hF_15_3 hF_15_4 f_15_1_0 hR_15 Lb L0 e_19 hF_20_0 hF_20_2 hF_20_3 hF_20_4 f_20_1_0 hR_20 Lc hF_23_0 hF_23_2 hF_23_3 hF_23_4 f_23_1_0 hR_23 Ld hF_26_0 hF_26_2 hF_26_3 f_26_1_0 hR_26 Le hnb_w_107 hW6 hLw c_198 c_235 hF_272_0 hF_272_2 hF_272_3 f_272_0_0 Lx Ln), (lf_X8_readLevel_62 hmz hu_10 Lr hF_11_0 hF_11_1 hF_12_0 hF_12_1 hF_12_2 f_12_1_0 La hF_15_0 hF_15_2 hF_15_3 hF_15_4 f_15_1_0 hR_15 Lb L0 e_19 hF_20_0 hF_20_2 hF_20_3 hF_20_4 f_20_1_0 hR_20 Lc hF_23_0 hF_23_2 hF_23_3 hF_23_4 f_23_1_0 hR_23 Ld hF_26_0 hF_26_2 hF_26_3 f_26_1_0 hR_26 Le hnb_w_107 hW6 hLw c_198 c_235 hF_272_0 hF_272_2 hF_272_3 f_272_0_0 Lx Ln)⟩⟩, hS.F ht⟩) hS.2.2 dX8_readLevel_161
                  · subst h_272
                    obtain ⟨hR_272, hlt_272⟩ := hF_272_1 rfl
                    refine lv_istore_n (lv' := [(1, .int 1), (0, .ref mo)]) hx hb dX8_readLevel_127 rfl hl (by decide) rfl (fun ls hl => ?_)
                    refine lv_goto (tgt := 102) hx hb dX8_readLevel_128 (by decide) ?_
                    exact ih (mpn_272, mkn_272, mvn_272, mbn_272, mwn_272, frn_272) _ _ _ (ms_n hRW.2.2.1 hR_272.2.2.1 hlt_272) ⟨lv_sub hl [0, 1] rfl, hP.sub (ws' := [(xo_8_rrriirrriiiiiiirrirrrrri mo m_la m_sz m_it ms mt m_st m_mv m_tp (nI mz) ml (nI mpn_272) mkn_272 mvn_272 mbn_272 mwn_272 m_rd m_ac (nI ma) m_as m_wo m_ik m_ke m_tr (nI mx)), (xI m_tp cI 120 ft_), (xI m_rd cI 38 frn_272)]) [0, 1, 2] rfl, hD.sub (ws' := [(xo_8_rrriirrriiiiiiirrirrrrri mo m_la m_sz m_it ms mt m_st m_mv m_tp (nI mz) ml (nI mpn_272) mkn_272 mvn_272 mbn_272 mwn_272 m_rd m_ac (nI ma) m_as m_wo m_ik m_ke m_tr (nI mx)), (xI m_tp cI 120 ft_), (xI m_rd cI 38 frn_272)]) [0, 1, 2] (by decide +kernel) rfl, hS, ⟨(W_ + 1), by omega, hR_272, (lf_X8_readLevel_64 hmz hu_10 Lr hF_11_0 hF_11_1 hF_12_0 hF_12_1 hF_12_2 f_12_1_0 La hF_15_0 hF_15_2 hF_15_3 hF_15_4 f_15_1_0 hR_15 Lb L0 e_19 hF_20_0 hF_20_2 hF_20_3 hF_20_4 f_20_1_0 hR_20 Lc hF_23_0 hF_23_2 hF_23_3 hF_23_4 f_23_1_0 hR_23 Ld hF_26_0 hF_26_2 hF_26_3 f_26_1_0 hR_26 Le hnb_w_107 hW6 hLw c_198 c_235 hF_272_0 hF_272_2 hF_272_3 f_272_1_0 hR_272)⟩, (by omega)⟩
theorem lf_X8_level_1 {mt : Int32} {ml : Int32} {mz : Nat} {ma : Nat} {fs : Nat → Int32} {w9 : Nat} {k9 : Nat} {h9 : Nat} {ft_ : Nat → Int32} {fc : Nat → Int32} {mkn_1 : Int32} {mvn_1 : Int32} {mbn_1 : Int32} {mpn_1 : Nat} {mwn_1 : Int32} {frn_1 : Nat → Int32} {v_3 : Int32} (hM : okM fs w9 k9 h9) (hT : ¬ mt = 0 → 1 ≤ k9) (h999 : h9 ≤ 999) (hT0 : mt = 0 → fs 0 = 0 ∧ ma = 0) (hac : okA fc ma) (hma : ma ≤ 24) (hmz : mz ≤ 120) (hF_1_0 : mpn_1 ≤ mz) (hF_1_2 : (rR ft_ mz).1 = ((mkn_1, mvn_1, mbn_1, mpn_1), m38 frn_1)) (hF_1_3 : (¬ (rR ft_ mz).2 = 0 → mwn_1 = (rR ft_ mz).2)) (f_1_0_0 : ¬ (rR ft_ mz).2 = 0) (e_3 : v_3 = ((-1000100) - mbn_1)) : mwn_1 = lvF ft_ mz ml := by
  first
  | exact hT0
  | exact id
  | (intro h_; exact absurd h_ (by decide))
  | (unfold lvF; grind)
  | (unfold n_levN; grind)
  | (unfold n_levA; rw [if_neg (by grind)])
  | (unfold n_levA; rw [if_pos (by grind)]; exact acM_0)
  | (unfold n_lev; rw [if_neg (by grind)])
  | (unfold lvA; grind [m38])
theorem lf_X8_level_2 {mt : Int32} {mz : Nat} {ma : Nat} {fs : Nat → Int32} {w9 : Nat} {k9 : Nat} {h9 : Nat} {ft_ : Nat → Int32} {fc : Nat → Int32} {mkn_1 : Int32} {mvn_1 : Int32} {mbn_1 : Int32} {mpn_1 : Nat} {mwn_1 : Int32} {frn_1 : Nat → Int32} {v_3 : Int32} (hM : okM fs w9 k9 h9) (hT : ¬ mt = 0 → 1 ≤ k9) (h999 : h9 ≤ 999) (hT0 : mt = 0 → fs 0 = 0 ∧ ma = 0) (hac : okA fc ma) (hma : ma ≤ 24) (hmz : mz ≤ 120) (hF_1_0 : mpn_1 ≤ mz) (hF_1_2 : (rR ft_ mz).1 = ((mkn_1, mvn_1, mbn_1, mpn_1), m38 frn_1)) (hF_1_3 : (¬ (rR ft_ mz).2 = 0 → mwn_1 = (rR ft_ mz).2)) (f_1_0_0 : ¬ (rR ft_ mz).2 = 0) (e_3 : v_3 = ((-1000100) - mbn_1)) : ((mt : Int32) = 0 → fs 0 = 0 ∧ ma = 0) := by
  first
  | exact hT0
  | exact id
  | (intro h_; exact absurd h_ (by decide))
  | (unfold lvF; grind)
  | (unfold n_levN; grind)
  | (unfold n_levA; rw [if_neg (by grind)])
  | (unfold n_levA; rw [if_pos (by grind)]; exact acM_0)
  | (unfold n_lev; rw [if_neg (by grind)])
  | (unfold lvA; grind [m38])
theorem lf_X8_level_3 {mt : Int32} {mz : Nat} {ma : Nat} {fs : Nat → Int32} {w9 : Nat} {k9 : Nat} {h9 : Nat} {ft_ : Nat → Int32} {fc : Nat → Int32} {mkn_1 : Int32} {mvn_1 : Int32} {mbn_1 : Int32} {mpn_1 : Nat} {mwn_1 : Int32} {frn_1 : Nat → Int32} {v_3 : Int32} (hM : okM fs w9 k9 h9) (hT : ¬ mt = 0 → 1 ≤ k9) (h999 : h9 ≤ 999) (hT0 : mt = 0 → fs 0 = 0 ∧ ma = 0) (hac : okA fc ma) (hma : ma ≤ 24) (hmz : mz ≤ 120) (hF_1_0 : mpn_1 ≤ mz) (hF_1_2 : (rR ft_ mz).1 = ((mkn_1, mvn_1, mbn_1, mpn_1), m38 frn_1)) (hF_1_3 : (¬ (rR ft_ mz).2 = 0 → mwn_1 = (rR ft_ mz).2)) (f_1_0_0 : ¬ (rR ft_ mz).2 = 0) (e_3 : v_3 = ((-1000100) - mbn_1)) : ((mt : Int32) = 0 → mt = 0) := by
  first
  | exact hT0
  | exact id
  | (intro h_; exact absurd h_ (by decide))
  | (unfold lvF; grind)
  | (unfold n_levN; grind)
  | (unfold n_levA; rw [if_neg (by grind)])
  | (unfold n_levA; rw [if_pos (by grind)]; exact acM_0)
  | (unfold n_lev; rw [if_neg (by grind)])
  | (unfold lvA; grind [m38])
theorem lf_X8_level_4 {mt : Int32} {mz : Nat} {ma : Nat} {fs : Nat → Int32} {w9 : Nat} {k9 : Nat} {h9 : Nat} {ft_ : Nat → Int32} {fc : Nat → Int32} {mkn_1 : Int32} {mvn_1 : Int32} {mbn_1 : Int32} {mpn_1 : Nat} {mwn_1 : Int32} {frn_1 : Nat → Int32} {v_3 : Int32} (hM : okM fs w9 k9 h9) (hT : ¬ mt = 0 → 1 ≤ k9) (h999 : h9 ≤ 999) (hT0 : mt = 0 → fs 0 = 0 ∧ ma = 0) (hac : okA fc ma) (hma : ma ≤ 24) (hmz : mz ≤ 120) (hF_1_0 : mpn_1 ≤ mz) (hF_1_2 : (rR ft_ mz).1 = ((mkn_1, mvn_1, mbn_1, mpn_1), m38 frn_1)) (hF_1_3 : (¬ (rR ft_ mz).2 = 0 → mwn_1 = (rR ft_ mz).2)) (f_1_0_0 : ¬ (rR ft_ mz).2 = 0) (e_3 : v_3 = ((-1000100) - mbn_1)) : m38 fs = n_lev ((rR ft_ mz).2 = 0) (rR ft_ mz).1.2 (m38 fs) := by
  first
  | exact hT0
  | exact id
  | (intro h_; exact absurd h_ (by decide))
  | (unfold lvF; grind)
  | (unfold n_levN; grind)
  | (unfold n_levA; rw [if_neg (by grind)])
  | (unfold n_levA; rw [if_pos (by grind)]; exact acM_0)
  | (unfold n_lev; rw [if_neg (by grind)])
  | (unfold lvA; grind [m38])
theorem lf_X8_level_5 {mt : Int32} {mz : Nat} {ma : Nat} {fs : Nat → Int32} {w9 : Nat} {k9 : Nat} {h9 : Nat} {ft_ : Nat → Int32} {fc : Nat → Int32} {mkn_1 : Int32} {mvn_1 : Int32} {mbn_1 : Int32} {mpn_1 : Nat} {mwn_1 : Int32} {frn_1 : Nat → Int32} {v_3 : Int32} (hM : okM fs w9 k9 h9) (hT : ¬ mt = 0 → 1 ≤ k9) (h999 : h9 ≤ 999) (hT0 : mt = 0 → fs 0 = 0 ∧ ma = 0) (hac : okA fc ma) (hma : ma ≤ 24) (hmz : mz ≤ 120) (hF_1_0 : mpn_1 ≤ mz) (hF_1_2 : (rR ft_ mz).1 = ((mkn_1, mvn_1, mbn_1, mpn_1), m38 frn_1)) (hF_1_3 : (¬ (rR ft_ mz).2 = 0 → mwn_1 = (rR ft_ mz).2)) (f_1_0_0 : ¬ (rR ft_ mz).2 = 0) (e_3 : v_3 = ((-1000100) - mbn_1)) : ma = n_levN ((rR ft_ mz).2 = 0) ma := by
  first
  | exact hT0
  | exact id
  | (intro h_; exact absurd h_ (by decide))
  | (unfold lvF; grind)
  | (unfold n_levN; grind)
  | (unfold n_levA; rw [if_neg (by grind)])
  | (unfold n_levA; rw [if_pos (by grind)]; exact acM_0)
  | (unfold n_lev; rw [if_neg (by grind)])
  | (unfold lvA; grind [m38])
theorem lf_X8_level_6 {mt : Int32} {mz : Nat} {ma : Nat} {fs : Nat → Int32} {w9 : Nat} {k9 : Nat} {h9 : Nat} {ft_ : Nat → Int32} {fc : Nat → Int32} {mkn_1 : Int32} {mvn_1 : Int32} {mbn_1 : Int32} {mpn_1 : Nat} {mwn_1 : Int32} {frn_1 : Nat → Int32} {v_3 : Int32} (hM : okM fs w9 k9 h9) (hT : ¬ mt = 0 → 1 ≤ k9) (h999 : h9 ≤ 999) (hT0 : mt = 0 → fs 0 = 0 ∧ ma = 0) (hac : okA fc ma) (hma : ma ≤ 24) (hmz : mz ≤ 120) (hF_1_0 : mpn_1 ≤ mz) (hF_1_2 : (rR ft_ mz).1 = ((mkn_1, mvn_1, mbn_1, mpn_1), m38 frn_1)) (hF_1_3 : (¬ (rR ft_ mz).2 = 0 → mwn_1 = (rR ft_ mz).2)) (f_1_0_0 : ¬ (rR ft_ mz).2 = 0) (e_3 : v_3 = ((-1000100) - mbn_1)) : acM fc ma = n_levA ((rR ft_ mz).2 = 0) (acM fc ma) := by
  first
  | exact hT0
  | exact id
  | (intro h_; exact absurd h_ (by decide))
  | (unfold lvF; grind)
  | (unfold n_levN; grind)
  | (unfold n_levA; rw [if_neg (by grind)])
  | (unfold n_levA; rw [if_pos (by grind)]; exact acM_0)
  | (unfold n_lev; rw [if_neg (by grind)])
  | (unfold lvA; grind [m38])
theorem lf_X8_level_7 {mt : Int32} {mz : Nat} {ma : Nat} {fs : Nat → Int32} {w9 : Nat} {k9 : Nat} {h9 : Nat} {ft_ : Nat → Int32} {fc : Nat → Int32} {mkn_1 : Int32} {mvn_1 : Int32} {mbn_1 : Int32} {mpn_1 : Nat} {mwn_1 : Int32} {frn_1 : Nat → Int32} {v_3 : Int32} (hM : okM fs w9 k9 h9) (hT : ¬ mt = 0 → 1 ≤ k9) (h999 : h9 ≤ 999) (hT0 : mt = 0 → fs 0 = 0 ∧ ma = 0) (hac : okA fc ma) (hma : ma ≤ 24) (hmz : mz ≤ 120) (hF_1_0 : mpn_1 ≤ mz) (hF_1_2 : (rR ft_ mz).1 = ((mkn_1, mvn_1, mbn_1, mpn_1), m38 frn_1)) (hF_1_3 : (¬ (rR ft_ mz).2 = 0 → mwn_1 = (rR ft_ mz).2)) (f_1_0_0 : ¬ (rR ft_ mz).2 = 0) (e_3 : v_3 = ((-1000100) - mbn_1)) : v_3 = (lvA ft_ mz) := by
  first
  | exact hT0
  | exact id
  | (intro h_; exact absurd h_ (by decide))
  | (unfold lvF; grind)
  | (unfold n_levN; grind)
  | (unfold n_levA; rw [if_neg (by grind)])
  | (unfold n_levA; rw [if_pos (by grind)]; exact acM_0)
  | (unfold n_lev; rw [if_neg (by grind)])
  | (unfold lvA; grind [m38])
theorem lf_X8_level_8 {mt : Int32} {ml : Int32} {mz : Nat} {ma : Nat} {fs : Nat → Int32} {w9 : Nat} {k9 : Nat} {h9 : Nat} {ft_ : Nat → Int32} {fc : Nat → Int32} {mkn_1 : Int32} {mvn_1 : Int32} {mbn_1 : Int32} {mpn_1 : Nat} {mwn_1 : Int32} {frn_1 : Nat → Int32} {w_8 : Nat → Int32} {v_17 : Int32} (hM : okM fs w9 k9 h9) (hT : ¬ mt = 0 → 1 ≤ k9) (h999 : h9 ≤ 999) (hT0 : mt = 0 → fs 0 = 0 ∧ ma = 0) (hac : okA fc ma) (hma : ma ≤ 24) (hmz : mz ≤ 120) (hF_1_0 : mpn_1 ≤ mz) (hF_1_2 : (rR ft_ mz).1 = ((mkn_1, mvn_1, mbn_1, mpn_1), m38 frn_1)) (hF_1_3 : (¬ (rR ft_ mz).2 = 0 → mwn_1 = (rR ft_ mz).2)) (f_1_1_0 : (rR ft_ mz).2 = 0) (haf_0 : (∀ j : Nat, j < 38 → w_8 j = frn_1 j)) (e_17 : v_17 = w_8 4) : ml = lvF ft_ mz ml := by
  first
  | exact hT0
  | exact id
  | (intro h_; exact absurd h_ (by decide))
  | (unfold lvF; grind)
  | (unfold n_levN; grind)
  | (unfold n_levA; rw [if_neg (by grind)])
  | (unfold n_levA; rw [if_pos (by grind)]; exact acM_0)
  | (unfold n_lev; rw [if_neg (by grind)])
  | (unfold n_lev; rw [if_pos (by grind), m38_eq haf_0]; grind)
  | exact lvA_ok f_1_1_0 hF_1_2 haf_0 e_17
  | (unfold lvA; grind [m38])
theorem lf_X8_level_9 {mt : Int32} {mz : Nat} {ma : Nat} {fs : Nat → Int32} {w9 : Nat} {k9 : Nat} {h9 : Nat} {ft_ : Nat → Int32} {fc : Nat → Int32} {mkn_1 : Int32} {mvn_1 : Int32} {mbn_1 : Int32} {mpn_1 : Nat} {mwn_1 : Int32} {frn_1 : Nat → Int32} {w_8 : Nat → Int32} {v_17 : Int32} (hM : okM fs w9 k9 h9) (hT : ¬ mt = 0 → 1 ≤ k9) (h999 : h9 ≤ 999) (hT0 : mt = 0 → fs 0 = 0 ∧ ma = 0) (hac : okA fc ma) (hma : ma ≤ 24) (hmz : mz ≤ 120) (hF_1_0 : mpn_1 ≤ mz) (hF_1_2 : (rR ft_ mz).1 = ((mkn_1, mvn_1, mbn_1, mpn_1), m38 frn_1)) (hF_1_3 : (¬ (rR ft_ mz).2 = 0 → mwn_1 = (rR ft_ mz).2)) (f_1_1_0 : (rR ft_ mz).2 = 0) (haf_0 : (∀ j : Nat, j < 38 → w_8 j = frn_1 j)) (e_17 : v_17 = w_8 4) : ((1 : Int32) = 0 → w_8 0 = 0 ∧ 0 = 0) := by
  first
  | exact hT0
  | exact id
  | (intro h_; exact absurd h_ (by decide))
  | (unfold lvF; grind)
  | (unfold n_levN; grind)
  | (unfold n_levA; rw [if_neg (by grind)])
  | (unfold n_levA; rw [if_pos (by grind)]; exact acM_0)
  | (unfold n_lev; rw [if_neg (by grind)])
  | (unfold n_lev; rw [if_pos (by grind), m38_eq haf_0]; grind)
  | exact lvA_ok f_1_1_0 hF_1_2 haf_0 e_17
  | (unfold lvA; grind [m38])
theorem lf_X8_level_10 {mt : Int32} {mz : Nat} {ma : Nat} {fs : Nat → Int32} {w9 : Nat} {k9 : Nat} {h9 : Nat} {ft_ : Nat → Int32} {fc : Nat → Int32} {mkn_1 : Int32} {mvn_1 : Int32} {mbn_1 : Int32} {mpn_1 : Nat} {mwn_1 : Int32} {frn_1 : Nat → Int32} {w_8 : Nat → Int32} {v_17 : Int32} (hM : okM fs w9 k9 h9) (hT : ¬ mt = 0 → 1 ≤ k9) (h999 : h9 ≤ 999) (hT0 : mt = 0 → fs 0 = 0 ∧ ma = 0) (hac : okA fc ma) (hma : ma ≤ 24) (hmz : mz ≤ 120) (hF_1_0 : mpn_1 ≤ mz) (hF_1_2 : (rR ft_ mz).1 = ((mkn_1, mvn_1, mbn_1, mpn_1), m38 frn_1)) (hF_1_3 : (¬ (rR ft_ mz).2 = 0 → mwn_1 = (rR ft_ mz).2)) (f_1_1_0 : (rR ft_ mz).2 = 0) (haf_0 : (∀ j : Nat, j < 38 → w_8 j = frn_1 j)) (e_17 : v_17 = w_8 4) : ((1 : Int32) = 0 → mt = 0) := by
  first
  | exact hT0
  | exact id
  | (intro h_; exact absurd h_ (by decide))
  | (unfold lvF; grind)
  | (unfold n_levN; grind)
  | (unfold n_levA; rw [if_neg (by grind)])
  | (unfold n_levA; rw [if_pos (by grind)]; exact acM_0)
  | (unfold n_lev; rw [if_neg (by grind)])
  | (unfold n_lev; rw [if_pos (by grind), m38_eq haf_0]; grind)
  | exact lvA_ok f_1_1_0 hF_1_2 haf_0 e_17
  | (unfold lvA; grind [m38])
theorem lf_X8_level_11 {mt : Int32} {mz : Nat} {ma : Nat} {fs : Nat → Int32} {w9 : Nat} {k9 : Nat} {h9 : Nat} {ft_ : Nat → Int32} {fc : Nat → Int32} {mkn_1 : Int32} {mvn_1 : Int32} {mbn_1 : Int32} {mpn_1 : Nat} {mwn_1 : Int32} {frn_1 : Nat → Int32} {w_8 : Nat → Int32} {v_17 : Int32} (hM : okM fs w9 k9 h9) (hT : ¬ mt = 0 → 1 ≤ k9) (h999 : h9 ≤ 999) (hT0 : mt = 0 → fs 0 = 0 ∧ ma = 0) (hac : okA fc ma) (hma : ma ≤ 24) (hmz : mz ≤ 120) (hF_1_0 : mpn_1 ≤ mz) (hF_1_2 : (rR ft_ mz).1 = ((mkn_1, mvn_1, mbn_1, mpn_1), m38 frn_1)) (hF_1_3 : (¬ (rR ft_ mz).2 = 0 → mwn_1 = (rR ft_ mz).2)) (f_1_1_0 : (rR ft_ mz).2 = 0) (haf_0 : (∀ j : Nat, j < 38 → w_8 j = frn_1 j)) (e_17 : v_17 = w_8 4) : m38 w_8 = n_lev ((rR ft_ mz).2 = 0) (rR ft_ mz).1.2 (m38 fs) := by
  first
  | exact hT0
  | exact id
  | (intro h_; exact absurd h_ (by decide))
  | (unfold lvF; grind)
  | (unfold n_levN; grind)
  | (unfold n_levA; rw [if_neg (by grind)])
  | (unfold n_levA; rw [if_pos (by grind)]; exact acM_0)
  | (unfold n_lev; rw [if_neg (by grind)])
  | (unfold n_lev; rw [if_pos (by grind), m38_eq haf_0]; grind)
  | exact lvA_ok f_1_1_0 hF_1_2 haf_0 e_17
  | (unfold lvA; grind [m38])
theorem lf_X8_level_12 {mt : Int32} {mz : Nat} {ma : Nat} {fs : Nat → Int32} {w9 : Nat} {k9 : Nat} {h9 : Nat} {ft_ : Nat → Int32} {fc : Nat → Int32} {mkn_1 : Int32} {mvn_1 : Int32} {mbn_1 : Int32} {mpn_1 : Nat} {mwn_1 : Int32} {frn_1 : Nat → Int32} {w_8 : Nat → Int32} {v_17 : Int32} (hM : okM fs w9 k9 h9) (hT : ¬ mt = 0 → 1 ≤ k9) (h999 : h9 ≤ 999) (hT0 : mt = 0 → fs 0 = 0 ∧ ma = 0) (hac : okA fc ma) (hma : ma ≤ 24) (hmz : mz ≤ 120) (hF_1_0 : mpn_1 ≤ mz) (hF_1_2 : (rR ft_ mz).1 = ((mkn_1, mvn_1, mbn_1, mpn_1), m38 frn_1)) (hF_1_3 : (¬ (rR ft_ mz).2 = 0 → mwn_1 = (rR ft_ mz).2)) (f_1_1_0 : (rR ft_ mz).2 = 0) (haf_0 : (∀ j : Nat, j < 38 → w_8 j = frn_1 j)) (e_17 : v_17 = w_8 4) : 0 = n_levN ((rR ft_ mz).2 = 0) ma := by
  first
  | exact hT0
  | exact id
  | (intro h_; exact absurd h_ (by decide))
  | (unfold lvF; grind)
  | (unfold n_levN; grind)
  | (unfold n_levA; rw [if_neg (by grind)])
  | (unfold n_levA; rw [if_pos (by grind)]; exact acM_0)
  | (unfold n_lev; rw [if_neg (by grind)])
  | (unfold n_lev; rw [if_pos (by grind), m38_eq haf_0]; grind)
  | exact lvA_ok f_1_1_0 hF_1_2 haf_0 e_17
  | (unfold lvA; grind [m38])
theorem lf_X8_level_13 {mt : Int32} {mz : Nat} {ma : Nat} {fs : Nat → Int32} {w9 : Nat} {k9 : Nat} {h9 : Nat} {ft_ : Nat → Int32} {fc : Nat → Int32} {mkn_1 : Int32} {mvn_1 : Int32} {mbn_1 : Int32} {mpn_1 : Nat} {mwn_1 : Int32} {frn_1 : Nat → Int32} {w_8 : Nat → Int32} {v_17 : Int32} (hM : okM fs w9 k9 h9) (hT : ¬ mt = 0 → 1 ≤ k9) (h999 : h9 ≤ 999) (hT0 : mt = 0 → fs 0 = 0 ∧ ma = 0) (hac : okA fc ma) (hma : ma ≤ 24) (hmz : mz ≤ 120) (hF_1_0 : mpn_1 ≤ mz) (hF_1_2 : (rR ft_ mz).1 = ((mkn_1, mvn_1, mbn_1, mpn_1), m38 frn_1)) (hF_1_3 : (¬ (rR ft_ mz).2 = 0 → mwn_1 = (rR ft_ mz).2)) (f_1_1_0 : (rR ft_ mz).2 = 0) (haf_0 : (∀ j : Nat, j < 38 → w_8 j = frn_1 j)) (e_17 : v_17 = w_8 4) : acM fc 0 = n_levA ((rR ft_ mz).2 = 0) (acM fc ma) := by
  first
  | exact hT0
  | exact id
  | (intro h_; exact absurd h_ (by decide))
  | (unfold lvF; grind)
  | (unfold n_levN; grind)
  | (unfold n_levA; rw [if_neg (by grind)])
  | (unfold n_levA; rw [if_pos (by grind)]; exact acM_0)
  | (unfold n_lev; rw [if_neg (by grind)])
  | (unfold n_lev; rw [if_pos (by grind), m38_eq haf_0]; grind)
  | exact lvA_ok f_1_1_0 hF_1_2 haf_0 e_17
  | (unfold lvA; grind [m38])
theorem lf_X8_level_14 {mt : Int32} {mz : Nat} {ma : Nat} {fs : Nat → Int32} {w9 : Nat} {k9 : Nat} {h9 : Nat} {ft_ : Nat → Int32} {fc : Nat → Int32} {mkn_1 : Int32} {mvn_1 : Int32} {mbn_1 : Int32} {mpn_1 : Nat} {mwn_1 : Int32} {frn_1 : Nat → Int32} {w_8 : Nat → Int32} {v_17 : Int32} (hM : okM fs w9 k9 h9) (hT : ¬ mt = 0 → 1 ≤ k9) (h999 : h9 ≤ 999) (hT0 : mt = 0 → fs 0 = 0 ∧ ma = 0) (hac : okA fc ma) (hma : ma ≤ 24) (hmz : mz ≤ 120) (hF_1_0 : mpn_1 ≤ mz) (hF_1_2 : (rR ft_ mz).1 = ((mkn_1, mvn_1, mbn_1, mpn_1), m38 frn_1)) (hF_1_3 : (¬ (rR ft_ mz).2 = 0 → mwn_1 = (rR ft_ mz).2)) (f_1_1_0 : (rR ft_ mz).2 = 0) (haf_0 : (∀ j : Nat, j < 38 → w_8 j = frn_1 j)) (e_17 : v_17 = w_8 4) : v_17 = (lvA ft_ mz) := by
  first
  | exact hT0
  | exact id
  | (intro h_; exact absurd h_ (by decide))
  | (unfold lvF; grind)
  | (unfold n_levN; grind)
  | (unfold n_levA; rw [if_neg (by grind)])
  | (unfold n_levA; rw [if_pos (by grind)]; exact acM_0)
  | (unfold n_lev; rw [if_neg (by grind)])
  | (unfold n_lev; rw [if_pos (by grind), m38_eq haf_0]; grind)
  | exact lvA_ok f_1_1_0 hF_1_2 haf_0 e_17
  | (unfold lvA; grind [m38])
set_option maxHeartbeats 4000000 in
set_option maxRecDepth 100000 in
theorem r_X8_level (l : Launch) (dC : Nat → ClassId) (dI : Nat → Nat → Nat) (cI cZ cL cJ : ClassId) (sz : Nat) (mo : Nat) (m_la : Nat) (m_sz : Nat) (m_it : Nat) (m_st : Nat) (m_mv : Nat) (m_tp : Nat) (m_rd : Nat) (m_ac : Nat) (m_as : Nat) (m_wo : Nat) (m_ik : Nat) (m_ke : Nat) (m_tr : Nat) (ms : Int32) (mt : Int32) (ml : Int32) (mk : Int32) (mv : Int32) (mb : Int32) (mw : Int32) (mz : Nat) (mp : Nat) (ma : Nat) (mx : Nat) (fs : Nat → Int32) (w9 : Nat) (k9 : Nat) (h9 : Nat) (ft_ : Nat → Int32) (fr : Nat → Int32) (fc : Nat → Int32) (hM : okM fs w9 k9 h9) (hT : ¬ mt = 0 → 1 ≤ k9) (h999 : h9 ≤ 999) (hT0 : mt = 0 → fs 0 = 0 ∧ ma = 0) (hac : okA fc ma) (hma : ma ≤ 24) (hmz : mz ≤ 120) : Met l yX8_level wsX8_level ({ frames := 6, cells := 0, slots := 0, locals := 133 }) (va_Pc [.ref mo] (fun U => U.heap.size = sz ∧ va_P (dC, dI) vwCl [(xo_8_rrriirrriiiiiiirrirrrrri mo m_la m_sz m_it ms mt m_st m_mv m_tp (nI mz) ml (nI mp) mk mv mb mw m_rd m_ac (nI ma) m_as m_wo m_ik m_ke m_tr (nI mx)), (xI m_st cI 38 fs), (xI m_tp cI 120 ft_), (xI m_rd cI 38 fr), (xI m_ac cI 912 fc)] U.heap ∧ va_K (dC, dI) vwCl [(cI, .int), (cZ, .boolean), (cL, .object RX3), (cJ, .array .int)] U ∧ va_D (fun _ => True) [(xo_8_rrriirrriiiiiiirrirrrrri mo m_la m_sz m_it ms mt m_st m_mv m_tp (nI mz) ml (nI mp) mk mv mb mw m_rd m_ac (nI ma) m_as m_wo m_ik m_ke m_tr (nI mx)), (xI m_st cI 38 fs), (xI m_tp cI 120 ft_), (xI m_rd cI 38 fr), (xI m_ac cI 912 fc)])) (va_Qi (fun r (_ : Unit) => r = (lvA ft_ mz)) (fun (_ : Unit) t => ∃ (fsn : Nat → Int32) (frn : Nat → Int32) (mkn : Int32) (mvn : Int32) (mbn : Int32) (mpn : Nat) (mwn : Int32) (mln : Int32) (mtn : Int32) (man : Nat) (w9n : Nat) (k9n : Nat) (h9n : Nat), va_P (dC, dI) vwCl [(xo_8_rrriirrriiiiiiirrirrrrri mo m_la m_sz m_it ms mtn m_st m_mv m_tp 0 mln (nI mpn) mkn mvn mbn mwn m_rd m_ac (nI man) m_as m_wo m_ik m_ke m_tr (nI mx)), (xI m_st cI 38 fsn), (xI m_tp cI 120 ft_), (xI m_rd cI 38 frn), (xI m_ac cI 912 fc)] t.heap ∧ va_D (va_A [(xo_8_rrriirrriiiiiiirrirrrrri mo m_la m_sz m_it ms mt m_st m_mv m_tp (nI mz) ml (nI mp) mk mv mb mw m_rd m_ac (nI ma) m_as m_wo m_ik m_ke m_tr (nI mx)), (xI m_st cI 38 fs), (xI m_tp cI 120 ft_), (xI m_rd cI 38 fr), (xI m_ac cI 912 fc)] sz) [(xo_8_rrriirrriiiiiiirrirrrrri mo m_la m_sz m_it ms mtn m_st m_mv m_tp 0 mln (nI mpn) mkn mvn mbn mwn m_rd m_ac (nI man) m_as m_wo m_ik m_ke m_tr (nI mx)), (xI m_st cI 38 fsn), (xI m_tp cI 120 ft_), (xI m_rd cI 38 frn), (xI m_ac cI 912 fc)] ∧ okM fsn w9n k9n h9n ∧ (¬ mtn = 0 → 1 ≤ k9n) ∧ h9n ≤ 999 ∧ okA fc man ∧ man ≤ 24 ∧ mln = lvF ft_ mz ml ∧ ((mtn : Int32) = 0 → fsn 0 = 0 ∧ man = 0) ∧ ((mtn : Int32) = 0 → mt = 0) ∧ m38 fsn = n_lev ((rR ft_ mz).2 = 0) (rR ft_ mz).1.2 (m38 fs) ∧ man = n_levN ((rR ft_ mz).2 = 0) ma ∧ acM fc man = n_levA ((rR ft_ mz).2 = 0) (acM fc ma)) (va_A [(xo_8_rrriirrriiiiiiirrirrrrri mo m_la m_sz m_it ms mt m_st m_mv m_tp (nI mz) ml (nI mp) mk mv mb mw m_rd m_ac (nI ma) m_as m_wo m_ik m_ke m_tr (nI mx)), (xI m_st cI 38 fs), (xI m_tp cI 120 ft_), (xI m_rd cI 38 fr), (xI m_ac cI 912 fc)] sz)) 0 0 (va_A [(xo_8_rrriirrriiiiiiirrirrrrri mo m_la m_sz m_it ms mt m_st m_mv m_tp (nI mz) ml (nI mp) mk mv mb mw m_rd m_ac (nI ma) m_as m_wo m_ik m_ke m_tr (nI mx)), (xI m_st cI 38 fs), (xI m_tp cI 120 ft_), (xI m_rd cI 38 fr), (xI m_ac cI 912 fc)] sz) := by
  refine Met.ofW (cc := cX8_level) (maxL := 3) (ret := (some .int)) (by decide) rfl ?_
  intro p e s m args below meth c s₁ B hml hv
  obtain ⟨rfl, hsz, hP, hK, hD0⟩ := hv
  have hx := B.exec
  have hb := B.bytes
  have hr := B.returns
  have hts := atoms_spec (ws := wsX8_level) B.pre
  have hown : s.vm.findClass RX8 = some m.cls := findClass_of_methodNamed B.named
  have hlocks := B.notSynchronized
  subst hsz
  have hD := hD0.self (sz := s.heap.size)
  generalize hAe : va_A [(xo_8_rrriirrriiiiiiirrirrrrri mo m_la m_sz m_it ms mt m_st m_mv m_tp (nI mz) ml (nI mp) mk mv mb mw m_rd m_ac (nI ma) m_as m_wo m_ik m_ke m_tr (nI mx)), (xI m_st cI 38 fs), (xI m_tp cI 120 ft_), (xI m_rd cI 38 fr), (xI m_ac cI 912 fc)] s.heap.size = A at hD ⊢
  have hA : ∀ q : Nat, s.heap.size ≤ q → A q := fun q h => by rw [← hAe]; exact Or.inr h
  have hS : va_S A s.heap s.heap [] := va_S.rf
  have hP : va_P (dC, dI) vwCl [(xo_8_rrriirrriiiiiiirrirrrrri mo m_la m_sz m_it ms mt m_st m_mv m_tp (nI mz) ml (nI mp) mk mv mb mw m_rd m_ac (nI ma) m_as m_wo m_ik m_ke m_tr (nI mx)), (xI m_st cI 38 fs), (xI m_tp cI 120 ft_), (xI m_rd cI 38 fr), (xI m_ac cI 912 fc)] s.heap := hP
  have hl := lv_entry ([.ref mo]) (n := 3) (Nat.le_of_ble_eq_true rfl)
  rw [lg_entry_eq]
  generalize (lg_sl ([.ref mo]) ++ List.replicate (3 - (lg_sl ([.ref mo])).length) Slot.unset).toArray = ls at hl ⊢
  have hl : lv_has ls 3 [(0, .ref mo)] := hl
  have hk6 := hM.2.2.2.2.1
  have hw6 := hM.2.2.2.1
  refine lv_aload_n hx hb dX8_level_0 rfl (lv_at hl 0 rfl) ?_
  have hc_1 := cutW (wc := [(xo_8_rrriirrriiiiiiirrirrrrri mo m_la m_sz m_it ms mt m_st m_mv m_tp (nI mz) ml (nI mp) mk mv mb mw m_rd m_ac (nI ma) m_as m_wo m_ik m_ke m_tr (nI mx)), (xI m_tp cI 120 ft_), (xI m_rd cI 38 fr)]) hP hD hS hA [0, 2, 3] (by decide +kernel) rfl
  refine va_calli (va_runV (As := []) (rest := []) ⟨hx, hb, hml, hown, hts⟩ (r_X8_readLevel l dC dI cI cZ cL cJ s.heap.size mo m_la m_sz m_it m_st m_mv m_tp m_rd m_ac m_as m_wo m_ik m_ke m_tr ms mt ml mk mv mb mw mz mp ma mx ft_ fr (hmz)) (cwV 0 hts gX8_level_X8_readLevel rfl rfl rfl (by decide +kernel) ⟨Nat.le_of_ble_eq_true rfl, Nat.le_of_ble_eq_true rfl⟩) (pvW 8 0 hK hP rfl rfl hc_1) rfl rfl hl.1 rfl (lv_room (Nat.le_of_ble_eq_true rfl)) dX8_level_1 ⟨Nat.le_of_ble_eq_true rfl, Nat.le_of_ble_eq_true rfl⟩) hS (fun q _ h => hc_1.2.2 q h) hc_1.2.2 (fun r_1 u_1 t_1 H1 locs ht hvm h_1 hB hz1 hk1 hS => ?_)
  refine xl_8_6 hB (fun mkn_1 mvn_1 mbn_1 mpn_1 mwn_1 frn_1 wn_1 kn_1 hP1 hD1 hF_1_0 hF_1_1 hF_1_2 hF_1_3 => ?_)
  clear hB
  rw [ht] at hP1
  obtain ⟨hu_1, h_1⟩ := h_1
  subst hu_1
  obtain ⟨hP, hD⟩ := va_join (wr := [(xI m_st cI 38 fs), (xI m_ac cI 912 fc)]) (w1 := [(xo_8_rrriirrriiiiiiirrirrrrri mo m_la m_sz m_it ms mt m_st m_mv m_tp (nI mz) ml (nI mpn_1) mkn_1 mvn_1 mbn_1 mwn_1 m_rd m_ac (nI ma) m_as m_wo m_ik m_ke m_tr (nI mx)), (xI m_tp cI 120 ft_), (xI m_rd cI 38 frn_1)]) hP hD [0, 2, 3] [1, 4] rfl rfl (by decide +kernel) (by decide +kernel) hk1 hc_1.2.2 hP1 hD1
  generalize H1 = H at hP hS ⊢
  have hP : va_P (dC, dI) vwCl [(xI m_st cI 38 fs), (xI m_ac cI 912 fc), (xo_8_rrriirrriiiiiiirrirrrrri mo m_la m_sz m_it ms mt m_st m_mv m_tp (nI mz) ml (nI mpn_1) mkn_1 mvn_1 mbn_1 mwn_1 m_rd m_ac (nI ma) m_as m_wo m_ik m_ke m_tr (nI mx)), (xI m_tp cI 120 ft_), (xI m_rd cI 38 frn_1)] H := hP
  have hD := dto hP hD
  rcases h_1 with ⟨h_1, f_1_0_0⟩ | ⟨h_1, f_1_1_0⟩
  · subst h_1
    refine lv_istore_n (lv' := [(1, .int 0), (0, .ref mo)]) hx hb dX8_level_4 rfl hl (by decide) rfl (fun ls hl => ?_)
    refine lv_aload_n hx hb dX8_level_5 rfl (lv_at hl 1 rfl) ?_
    refine lv_iconst (v := 0) hx hb dX8_level_6 (by decide) ?_
    refine va_put (D := (dC, dI)) (ci := 8) (v := .int 0) (ty := .int) (C := RX8) (T := TX8) (N := 24) hx hb hts i_X8_level_X8 tyX8 tyX8_ok nmX8 hown hK hP hD hS 2 rfl rfl 8 (by decide) (hts _ mx_X8_level_1) (fun _ h9 => h9) rfl (by decide +kernel) rfl rfl (Nat.le_of_ble_eq_true rfl) dX8_level_7 (fun H locs hP hD hS => ?_)
    have hP : va_P (dC, dI) vwCl [(xI m_st cI 38 fs), (xI m_ac cI 912 fc), (xo_8_rrriirrriiiiiiirrirrrrri mo m_la m_sz m_it ms mt m_st m_mv m_tp 0 ml (nI mpn_1) mkn_1 mvn_1 mbn_1 mwn_1 m_rd m_ac (nI ma) m_as m_wo m_ik m_ke m_tr (nI mx)), (xI m_tp cI 120 ft_), (xI m_rd cI 38 frn_1)] H := hP
    have hD := dto hP hD
    refine lv_iload_n hx hb dX8_level_10 rfl (lv_at hl 0 rfl) ?_
    refine lv_if_ne (tgt := 30) hx hb dX8_level_11 (by decide) (fun c_ => absurd (by decide) c_) (fun _ => ?_)
    refine lv_aload_n hx hb dX8_level_14 rfl (lv_at hl 1 rfl) ?_
    refine lv_aload_n hx hb dX8_level_15 rfl (lv_at hl 1 rfl) ?_
    refine va_get (D := (dC, dI)) (ci := 8) (v := .int mwn_1) (C := RX8) (T := TX8) (N := 24) hx hb hts i_X8_level_X8 hown hK hP 2 rfl rfl 14 (by decide) (hts _ mx_X8_level_2) (fun _ h9 => h9) rfl dX8_level_16 ?_
    refine va_put (D := (dC, dI)) (ci := 8) (v := .int mwn_1) (ty := .int) (C := RX8) (T := TX8) (N := 24) hx hb hts i_X8_level_X8 tyX8 tyX8_ok nmX8 hown hK hP hD hS 2 rfl rfl 9 (by decide) (hts _ mx_X8_level_3) (fun _ h9 => h9) rfl (by decide +kernel) rfl rfl (Nat.le_of_ble_eq_true rfl) dX8_level_19 (fun H locs hP hD hS => ?_)
    have hP : va_P (dC, dI) vwCl [(xI m_st cI 38 fs), (xI m_ac cI 912 fc), (xo_8_rrriirrriiiiiiirrirrrrri mo m_la m_sz m_it ms mt m_st m_mv m_tp 0 mwn_1 (nI mpn_1) mkn_1 mvn_1 mbn_1 mwn_1 m_rd m_ac (nI ma) m_as m_wo m_ik m_ke m_tr (nI mx)), (xI m_tp cI 120 ft_), (xI m_rd cI 38 frn_1)] H := hP
    have hD := dto hP hD
    refine lv_ldc (own := RX8) (v := (-1000100)) hx hb hown (hts _ mx_X8_level_4) dX8_level_22 ?_
    refine lv_aload_n hx hb dX8_level_24 rfl (lv_at hl 1 rfl) ?_
    refine va_get (D := (dC, dI)) (ci := 8) (v := .int mbn_1) (C := RX8) (T := TX8) (N := 24) hx hb hts i_X8_level_X8 hown hK hP 2 rfl rfl 13 (by decide) (hts _ mx_X8_level_5) (fun _ h9 => h9) rfl dX8_level_25 ?_
    refine lv_isub hx hb dX8_level_28 ?_
    refine lv_topi (fun v_3 e_3 => ?_)
    have hX9 := cut2 (wc := [(xo_8_rrriirrriiiiiiirrirrrrri mo m_la m_sz m_it ms mt m_st m_mv m_tp 0 mwn_1 (nI mpn_1) mkn_1 mvn_1 mbn_1 mwn_1 m_rd m_ac (nI ma) m_as m_wo m_ik m_ke m_tr (nI mx)), (xI m_st cI 38 fs), (xI m_tp cI 120 ft_), (xI m_rd cI 38 frn_1), (xI m_ac cI 912 fc)]) hP hD [2, 0, 3, 4, 1] (by decide +kernel) rfl
    exact W.iret (v := v_3) hx hb hr (fun t ht hW => ⟨⟨v_3, (), rfl, (lf_X8_level_7 hM hT h999 hT0 hac hma hmz hF_1_0 hF_1_2 hF_1_3 f_1_0_0 e_3), ⟨fs, frn_1, mkn_1, mvn_1, mbn_1, mpn_1, mwn_1, mwn_1, mt, ma, w9, k9, h9, va_Ht ht hX9.1, hX9.2, hM, hT, (by omega), hac, (by omega), (lf_X8_level_1 hM hT h999 hT0 hac hma hmz hF_1_0 hF_1_2 hF_1_3 f_1_0_0 e_3), (lf_X8_level_2 hM hT h999 hT0 hac hma hmz hF_1_0 hF_1_2 hF_1_3 f_1_0_0 e_3), (lf_X8_level_3 hM hT h999 hT0 hac hma hmz hF_1_0 hF_1_2 hF_1_3 f_1_0_0 e_3), (lf_X8_level_4 hM hT h999 hT0 hac hma hmz hF_1_0 hF_1_2 hF_1_3 f_1_0_0 e_3), (lf_X8_level_5 hM hT h999 hT0 hac hma hmz hF_1_0 hF_1_2 hF_1_3 f_1_0_0 e_3), (lf_X8_level_6 hM hT h999 hT0 hac hma hmz hF_1_0 hF_1_2 hF_1_3 f_1_0_0 e_3)⟩⟩, hS.F ht⟩) hS.2.2 dX8_level_29
  · subst h_1
    obtain ⟨hm9, hkn⟩ := hF_1_1 rfl
    refine lv_istore_n (lv' := [(1, .int 1), (0, .ref mo)]) hx hb dX8_level_4 rfl hl (by decide) rfl (fun ls hl => ?_)
    refine lv_aload_n hx hb dX8_level_5 rfl (lv_at hl 1 rfl) ?_
    refine lv_iconst (v := 0) hx hb dX8_level_6 (by decide) ?_
    refine va_put (D := (dC, dI)) (ci := 8) (v := .int 0) (ty := .int) (C := RX8) (T := TX8) (N := 24) hx hb hts i_X8_level_X8 tyX8 tyX8_ok nmX8 hown hK hP hD hS 2 rfl rfl 8 (by decide) (hts _ mx_X8_level_1) (fun _ h9 => h9) rfl (by decide +kernel) rfl rfl (Nat.le_of_ble_eq_true rfl) dX8_level_7 (fun H locs hP hD hS => ?_)
    have hP : va_P (dC, dI) vwCl [(xI m_st cI 38 fs), (xI m_ac cI 912 fc), (xo_8_rrriirrriiiiiiirrirrrrri mo m_la m_sz m_it ms mt m_st m_mv m_tp 0 ml (nI mpn_1) mkn_1 mvn_1 mbn_1 mwn_1 m_rd m_ac (nI ma) m_as m_wo m_ik m_ke m_tr (nI mx)), (xI m_tp cI 120 ft_), (xI m_rd cI 38 frn_1)] H := hP
    have hD := dto hP hD
    refine lv_iload_n hx hb dX8_level_10 rfl (lv_at hl 0 rfl) ?_
    refine lv_if_ne (tgt := 30) hx hb dX8_level_11 (by decide) (fun _ => ?_) (fun c_ => absurd c_ (by decide))
    refine lv_iconst (v := 0) hx hb dX8_level_30 (by decide) ?_
    refine lv_istore_n (lv' := [(2, .int 0), (1, .int 1), (0, .ref mo)]) hx hb dX8_level_31 rfl hl (by decide) rfl (fun ls hl => ?_)
    refine lp_go (σ := (Nat → Int32)) (fun ii (st : (Nat → Int32)) H locs ls => match st with | w_8 => lv_has ls 3 [(2, .int (nI ii)), (1, .int 1), (0, .ref mo)] ∧ va_P (dC, dI) vwCl [(xI m_st cI 38 w_8), (xI m_ac cI 912 fc), (xo_8_rrriirrriiiiiiirrirrrrri mo m_la m_sz m_it ms mt m_st m_mv m_tp 0 ml (nI mpn_1) mkn_1 mvn_1 mbn_1 mwn_1 m_rd m_ac (nI ma) m_as m_wo m_ik m_ke m_tr (nI mx)), (xI m_tp cI 120 ft_), (xI m_rd cI 38 frn_1)] H ∧ va_D A [(xI m_st cI 38 w_8), (xI m_ac cI 912 fc), (xo_8_rrriirrriiiiiiirrirrrrri mo m_la m_sz m_it ms mt m_st m_mv m_tp 0 ml (nI mpn_1) mkn_1 mvn_1 mbn_1 mwn_1 m_rd m_ac (nI ma) m_as m_wo m_ik m_ke m_tr (nI mx)), (xI m_tp cI 120 ft_), (xI m_rd cI 38 frn_1)] ∧ va_S A s.heap H locs ∧ (∀ j : Nat, j < ii → w_8 j = frn_1 j)) 38 ?_ ?_ 0 (by omega) (fs) ⟨lv_sub hl [0, 1, 2] rfl, hP.sub (ws' := [(xI m_st cI 38 fs), (xI m_ac cI 912 fc), (xo_8_rrriirrriiiiiiirrirrrrri mo m_la m_sz m_it ms mt m_st m_mv m_tp 0 ml (nI mpn_1) mkn_1 mvn_1 mbn_1 mwn_1 m_rd m_ac (nI ma) m_as m_wo m_ik m_ke m_tr (nI mx)), (xI m_tp cI 120 ft_), (xI m_rd cI 38 frn_1)]) [0, 1, 2, 3, 4] rfl, hD.sub (ws' := [(xI m_st cI 38 fs), (xI m_ac cI 912 fc), (xo_8_rrriirrriiiiiiirrirrrrri mo m_la m_sz m_it ms mt m_st m_mv m_tp 0 ml (nI mpn_1) mkn_1 mvn_1 mbn_1 mwn_1 m_rd m_ac (nI ma) m_as m_wo m_ik m_ke m_tr (nI mx)), (xI m_tp cI 120 ft_), (xI m_rd cI 38 frn_1)]) [0, 1, 2, 3, 4] (by decide +kernel) rfl, hS, (fun j h_ => absurd h_ (Nat.not_lt_zero j))⟩
    · rintro ii w_8 H locs ls hii ⟨hl, hP, hD, hS, haf_0⟩ ih
      refine lv_iload_n hx hb dX8_level_32 rfl (lv_at hl 0 rfl) ?_
      refine lv_bipush (v := 38) hx hb dX8_level_33 (by decide) ?_
      refine lv_icmp_ge (tgt := 56) hx hb dX8_level_35 (by decide) (fun c_ => absurd c_ (fun q_ => absurd ((nI_leI (a := 38) (b := ii) (by omega) (by omega)).mp q_) (by omega))) (fun _ => ?_)
      refine lv_aload_n hx hb dX8_level_38 rfl (lv_at hl 2 rfl) ?_
      refine va_get (D := (dC, dI)) (ci := 8) (v := .ref m_st) (C := RX8) (T := TX8) (N := 24) hx hb hts i_X8_level_X8 hown hK hP 2 rfl rfl 5 (by decide) (hts _ mx_X8_level_6) (fun _ h9 => h9) rfl dX8_level_39 ?_
      refine lv_iload_n hx hb dX8_level_42 rfl (lv_at hl 0 rfl) ?_
      refine lv_aload_n hx hb dX8_level_43 rfl (lv_at hl 2 rfl) ?_
      refine va_get (D := (dC, dI)) (ci := 8) (v := .ref m_rd) (C := RX8) (T := TX8) (N := 24) hx hb hts i_X8_level_X8 hown hK hP 2 rfl rfl 15 (by decide) (hts _ mx_X8_level_7) (fun _ h9 => h9) rfl dX8_level_44 ?_
      refine lv_iload_n hx hb dX8_level_47 rfl (lv_at hl 0 rfl) ?_
      refine va_iald hx hb hK hP 4 0 rfl rfl (vp_in_nI (by omega) (by omega)) dX8_level_48 ?_
      refine lv_topi (fun v_14 e_14 => ?_)
      have e_14 : v_14 = frn_1 ii := e_14.trans (congrArg frn_1 (nI_clamp (by omega)))
      refine va_iast hx hb hK hP hD hS 0 0 rfl rfl (vp_in_nI (by omega) (by omega)) dX8_level_49 (fun H locs hP hD hS => ?_)
      generalize hg_15 : upd w_8 ((nI ii) : Int32).toNatClampNeg v_14 = g_15 at hP hD
      have hu_15 : g_15 = upd w_8 ii v_14 := (by rw [← hg_15, nI_clamp (by omega)])
      have hP : va_P (dC, dI) vwCl [(xI m_st cI 38 g_15), (xI m_ac cI 912 fc), (xo_8_rrriirrriiiiiiirrirrrrri mo m_la m_sz m_it ms mt m_st m_mv m_tp 0 ml (nI mpn_1) mkn_1 mvn_1 mbn_1 mwn_1 m_rd m_ac (nI ma) m_as m_wo m_ik m_ke m_tr (nI mx)), (xI m_tp cI 120 ft_), (xI m_rd cI 38 frn_1)] H := hP
      have hD := dto hP hD
      refine lv_iinc (v := (nI (ii + 1))) (lv' := [(2, .int (nI (ii + 1))), (1, .int 1), (0, .ref mo)]) hx hb dX8_level_50 hl (k := 0) rfl (nI_add ii 1) (by decide) rfl (fun ls hl => ?_)
      refine lv_goto (tgt := 32) hx hb dX8_level_53 (by decide) ?_
      exact ih (g_15) _ _ _ ⟨lv_sub hl [0, 1, 2] rfl, hP.sub (ws' := [(xI m_st cI 38 g_15), (xI m_ac cI 912 fc), (xo_8_rrriirrriiiiiiirrirrrrri mo m_la m_sz m_it ms mt m_st m_mv m_tp 0 ml (nI mpn_1) mkn_1 mvn_1 mbn_1 mwn_1 m_rd m_ac (nI ma) m_as m_wo m_ik m_ke m_tr (nI mx)), (xI m_tp cI 120 ft_), (xI m_rd cI 38 frn_1)]) [0, 1, 2, 3, 4] rfl, hD.sub (ws' := [(xI m_st cI 38 g_15), (xI m_ac cI 912 fc), (xo_8_rrriirrriiiiiiirrirrrrri mo m_la m_sz m_it ms mt m_st m_mv m_tp 0 ml (nI mpn_1) mkn_1 mvn_1 mbn_1 mwn_1 m_rd m_ac (nI ma) m_as m_wo m_ik m_ke m_tr (nI mx)), (xI m_tp cI 120 ft_), (xI m_rd cI 38 frn_1)]) [0, 1, 2, 3, 4] (by decide +kernel) rfl, hS, (cp_0 haf_0 (by omega) (e_14.trans (congrArg frn_1 (nI_clamp (by omega)).symm)) hg_15)⟩
    · rintro w_8 H locs ls ⟨hl, hP, hD, hS, haf_0⟩
      refine lv_iload_n hx hb dX8_level_32 rfl (lv_at hl 0 rfl) ?_
      refine lv_bipush (v := 38) hx hb dX8_level_33 (by decide) ?_
      refine lv_icmp_ge (tgt := 56) hx hb dX8_level_35 (by decide) (fun _ => ?_) (fun c_ => absurd ((nI_leI (a := 38) (b := 38) (by omega) (by omega)).mpr (by omega)) c_)
      have uM := okM_eq hm9 haf_0
      have hac0 := okA_0 fc
      refine lv_aload_n hx hb dX8_level_56 rfl (lv_at hl 2 rfl) ?_
      refine lv_iconst (v := 1) hx hb dX8_level_57 (by decide) ?_
      refine va_put (D := (dC, dI)) (ci := 8) (v := .int 1) (ty := .boolean) (C := RX8) (T := TX8) (N := 24) hx hb hts i_X8_level_X8 tyX8 tyX8_ok nmX8 hown hK hP hD hS 2 rfl rfl 4 (by decide) (hts _ mx_X8_level_8) (fun _ h9 => h9) rfl (by decide +kernel) rfl rfl (Nat.le_of_ble_eq_true rfl) dX8_level_58 (fun H locs hP hD hS => ?_)
      have hP : va_P (dC, dI) vwCl [(xI m_st cI 38 w_8), (xI m_ac cI 912 fc), (xo_8_rrriirrriiiiiiirrirrrrri mo m_la m_sz m_it ms 1 m_st m_mv m_tp 0 ml (nI mpn_1) mkn_1 mvn_1 mbn_1 mwn_1 m_rd m_ac (nI ma) m_as m_wo m_ik m_ke m_tr (nI mx)), (xI m_tp cI 120 ft_), (xI m_rd cI 38 frn_1)] H := hP
      have hD := dto hP hD
      refine lv_aload_n hx hb dX8_level_61 rfl (lv_at hl 2 rfl) ?_
      refine lv_iconst (v := 0) hx hb dX8_level_62 (by decide) ?_
      refine va_put (D := (dC, dI)) (ci := 8) (v := .int 0) (ty := .int) (C := RX8) (T := TX8) (N := 24) hx hb hts i_X8_level_X8 tyX8 tyX8_ok nmX8 hown hK hP hD hS 2 rfl rfl 17 (by decide) (hts _ mx_X8_level_9) (fun _ h9 => h9) rfl (by decide +kernel) rfl rfl (Nat.le_of_ble_eq_true rfl) dX8_level_63 (fun H locs hP hD hS => ?_)
      have hP : va_P (dC, dI) vwCl [(xI m_st cI 38 w_8), (xI m_ac cI 912 fc), (xo_8_rrriirrriiiiiiirrirrrrri mo m_la m_sz m_it ms 1 m_st m_mv m_tp 0 ml (nI mpn_1) mkn_1 mvn_1 mbn_1 mwn_1 m_rd m_ac 0 m_as m_wo m_ik m_ke m_tr (nI mx)), (xI m_tp cI 120 ft_), (xI m_rd cI 38 frn_1)] H := hP
      have hD := dto hP hD
      refine lv_aload_n hx hb dX8_level_66 rfl (lv_at hl 2 rfl) ?_
      refine va_get (D := (dC, dI)) (ci := 8) (v := .ref m_st) (C := RX8) (T := TX8) (N := 24) hx hb hts i_X8_level_X8 hown hK hP 2 rfl rfl 5 (by decide) (hts _ mx_X8_level_6) (fun _ h9 => h9) rfl dX8_level_67 ?_
      refine lv_iconst (v := 4) hx hb dX8_level_70 (by decide) ?_
      refine va_iald hx hb hK hP 0 0 rfl rfl (by unfold vp_in; decide) dX8_level_71 ?_
      refine lv_topi (fun v_17 e_17 => ?_)
      have e_17 : v_17 = w_8 4 := e_17
      have hX9 := cut2 (wc := [(xo_8_rrriirrriiiiiiirrirrrrri mo m_la m_sz m_it ms 1 m_st m_mv m_tp 0 ml (nI mpn_1) mkn_1 mvn_1 mbn_1 mwn_1 m_rd m_ac 0 m_as m_wo m_ik m_ke m_tr (nI mx)), (xI m_st cI 38 w_8), (xI m_tp cI 120 ft_), (xI m_rd cI 38 frn_1), (xI m_ac cI 912 fc)]) hP hD [2, 0, 3, 4, 1] (by decide +kernel) rfl
      exact W.iret (v := v_17) hx hb hr (fun t ht hW => ⟨⟨v_17, (), rfl, (lf_X8_level_14 hM hT h999 hT0 hac hma hmz hF_1_0 hF_1_2 hF_1_3 f_1_1_0 haf_0 e_17), ⟨w_8, frn_1, mkn_1, mvn_1, mbn_1, mpn_1, mwn_1, ml, 1, 0, wn_1, kn_1, 0, va_Ht ht hX9.1, hX9.2, uM, (fun _ => hkn), (by omega), hac0, (by omega), (lf_X8_level_8 hM hT h999 hT0 hac hma hmz hF_1_0 hF_1_2 hF_1_3 f_1_1_0 haf_0 e_17), (lf_X8_level_9 hM hT h999 hT0 hac hma hmz hF_1_0 hF_1_2 hF_1_3 f_1_1_0 haf_0 e_17), (lf_X8_level_10 hM hT h999 hT0 hac hma hmz hF_1_0 hF_1_2 hF_1_3 f_1_1_0 haf_0 e_17), (lf_X8_level_11 hM hT h999 hT0 hac hma hmz hF_1_0 hF_1_2 hF_1_3 f_1_1_0 haf_0 e_17), (lf_X8_level_12 hM hT h999 hT0 hac hma hmz hF_1_0 hF_1_2 hF_1_3 f_1_1_0 haf_0 e_17), (lf_X8_level_13 hM hT h999 hT0 hac hma hmz hF_1_0 hF_1_2 hF_1_3 f_1_1_0 haf_0 e_17)⟩⟩, hS.F ht⟩) hS.2.2 dX8_level_72
