set_option maxHeartbeats 4000000 in
set_option maxRecDepth 100000 in
theorem w_X8_row (l : Launch) (dC : Nat → ClassId) (dI : Nat → Nat → Nat) (cI cZ cL cJ : ClassId) (sz : Nat) (mo : Nat) (Rl : Nat → Int32) (Rn : Nat → Int32) (zt : Nat) (Tb : Nat → Int32) (lf : Int32) (Lv : Nat → Int32) (An : Nat) (Ac : Nat → Nat → Int32) (I0 : Nat → Int32) (I1 : Nat → Int32) (Tz : Nat) (Tc : Nat → Int32) (sg : Int32) (It : Nat → Nat → Int32) (ws : va_W) (a0 a1 a2 : Int32)  (hI : ISM cI cZ cL cJ mo Rl Rn zt Tb lf Lv An Ac I0 I1 Tz Tc sg It ws) : Met l yX8_row wsX8_row ({ frames := 2, cells := 0, slots := 0, locals := 45 }) (va_Pc [.ref mo, .int a0, .int a1, .int a2] (wpx dC dI [(cI, .int), (cZ, .boolean), (cL, .object RX3), (cJ, .array .int)] sz ws)) (va_Qi (fun r (_ : Unit) => r = an_row a0 a1 a2) (fun _ t => wox dC dI (ISM cI cZ cL cJ mo (sr_l Rl a0 a1 a2) (sr_n Rn a0 a1 a2) zt Tb lf Lv An Ac I0 I1 Tz Tc (f_row a0 a1 a2 sg) (n_itr It a0 a1 a2)) sz ws t) (va_A ws sz)) 0 0 (va_A ws sz) := by
  refine ISM_el (P := fun (ws : va_W) => Met l yX8_row wsX8_row ({ frames := 2, cells := 0, slots := 0, locals := 45 }) (va_Pc [.ref mo, .int a0, .int a1, .int a2] (wpx dC dI [(cI, .int), (cZ, .boolean), (cL, .object RX3), (cJ, .array .int)] sz ws)) (va_Qi (fun r (_ : Unit) => r = an_row a0 a1 a2) (fun _ t => wox dC dI (ISM cI cZ cL cJ mo (sr_l Rl a0 a1 a2) (sr_n Rn a0 a1 a2) zt Tb lf Lv An Ac I0 I1 Tz Tc (f_row a0 a1 a2 sg) (n_itr It a0 a1 a2)) sz ws t) (va_A ws sz)) 0 0 (va_A ws sz)) hI (fun ad iv gf mz mp ma mx w9 k9 h9 f_0_0 f_0_1 f_0_2 f_0_3 f_0_4 f_0_5 f_0_6 f_0_7 f_0_8 f_0_9 f_0_10 f_0_11 eq_0_0 eq_0_1 eq_0_2 eq_0_3 eq_0_4 eq_0_5 eq_0_6 eq_0_7 eq_0_8 eq_0_9 eq_0_10 eq_0_11 eq_0_12 eq_0_13 hI0 => ?_)
  subst eq_0_0
  subst eq_0_1
  obtain rfl : mz = zt := eq_0_2.symm
  subst eq_0_3
  subst eq_0_4
  subst eq_0_5
  obtain rfl : ma = An := eq_0_6.symm
  subst eq_0_7
  subst eq_0_8
  subst eq_0_9
  obtain rfl : mx = Tz := eq_0_10.symm
  subst eq_0_11
  subst eq_0_12
  subst eq_0_13
  refine wd_Bi (cs := [[(xo_8_rrriirrriiiiiiirrirrrrri mo (ad 0) (ad 1) (ad 2) (iv 0) (iv 1) (ad 3) (ad 4) (ad 5) (nI mz) (iv 2) (nI mp) (iv 3) (iv 4) (iv 5) (iv 6) (ad 6) (ad 7) (nI ma) (ad 8) (ad 9) (ad 10) (ad 11) (ad 12) (nI mx))], [(xI (ad 0) cI 8 (gf 0))], [(xI (ad 1) cI 8 (gf 1))], [(xI (ad 2) cI 320 (gf 2))]]) (rs := [[(xI (ad 3) cI 38 (gf 3))], [(xI (ad 4) cI 40 (gf 4))], [(xI (ad 5) cI 120 (gf 5))], [(xI (ad 6) cI 38 (gf 6))], [(xI (ad 7) cI 912 (gf 7))], [(xI (ad 8) cI 38 (gf 8))], [(xI (ad 9) cI 16 (gf 9))], [(xI (ad 10) cZ 2 (gf 10))], [(xI (ad 11) cI 76 (gf 11))], [(xI (ad 12) cI 16 (gf 12))]]) (r_X8_row l dC dI cI cZ cL cJ sz mo (ad 0) (ad 1) (ad 2) (ad 3) (ad 4) (ad 5) (ad 6) (ad 7) (ad 8) (ad 9) (ad 10) (ad 11) (ad 12) (iv 0) (iv 1) (iv 2) (iv 3) (iv 4) (iv 5) (iv 6) mz mp ma mx (gf 0) (gf 1) (gf 2) a0 a1 a2 (by first | with_reducible assumption | assumption) (by first | with_reducible assumption | assumption)) rfl (pmB [0, 1, 2, 3, 4, 5, 6, 7, 8, 9, 10, 11, 12, 13] 14 rfl (by decide +kernel) rfl) ?_
  rintro t r e2 ⟨fnn_, fzn, fin_, msn, hP1, hD1, g_0, g_1, g_2, g_3, g_4, g_5⟩
  exact ⟨e2, [[(xo_8_rrriirrriiiiiiirrirrrrri mo (ad 0) (ad 1) (ad 2) msn (iv 1) (ad 3) (ad 4) (ad 5) (nI mz) (iv 2) (nI mp) (iv 3) (iv 4) (iv 5) (iv 6) (ad 6) (ad 7) (nI ma) (ad 8) (ad 9) (ad 10) (ad 11) (ad 12) (nI mx))], [(xI (ad 0) cI 8 fnn_)], [(xI (ad 1) cI 8 fzn)], [(xI (ad 2) cI 320 fin_)]], [[(xo_8_rrriirrriiiiiiirrirrrrri mo (ad 0) (ad 1) (ad 2) msn (iv 1) (ad 3) (ad 4) (ad 5) (nI mz) (iv 2) (nI mp) (iv 3) (iv 4) (iv 5) (iv 6) (ad 6) (ad 7) (nI ma) (ad 8) (ad 9) (ad 10) (ad 11) (ad 12) (nI mx))], [(xI (ad 0) cI 8 fnn_)], [(xI (ad 1) cI 8 fzn)], [(xI (ad 2) cI 320 fin_)], [(xI (ad 3) cI 38 (gf 3))], [(xI (ad 4) cI 40 (gf 4))], [(xI (ad 5) cI 120 (gf 5))], [(xI (ad 6) cI 38 (gf 6))], [(xI (ad 7) cI 912 (gf 7))], [(xI (ad 8) cI 38 (gf 8))], [(xI (ad 9) cI 16 (gf 9))], [(xI (ad 10) cZ 2 (gf 10))], [(xI (ad 11) cI 76 (gf 11))], [(xI (ad 12) cI 16 (gf 12))]], hP1, hD1, ⟨_, _, _, _, _, _, _, _, _, _, _, _, _, _, rfl, ⟨ad, (fun k => [msn, (iv 1), (iv 2), (iv 3), (iv 4), (iv 5), (iv 6)].getD k 0), (fun k => [fnn_, fzn, fin_, (gf 3), (gf 4), (gf 5), (gf 6), (gf 7), (gf 8), (gf 9), (gf 10), (gf 11), (gf 12)].getD k (fun _ => 0)), mz, mp, ma, mx, w9, k9, h9, rfl, rfl, rfl, rfl, rfl, rfl, rfl, rfl, rfl, rfl, rfl, rfl, rfl, rfl, f_0_0, f_0_1, f_0_2, f_0_3, f_0_4, f_0_5, f_0_6, f_0_7, f_0_8, f_0_9, (by first | with_reducible assumption | omega | assumption | exact (fun h_ => ⟨(congrFun g_1 0).trans (f_0_3 h_).1, (f_0_3 h_).2⟩) | (intro h_; simp_all)), (by first | with_reducible assumption | omega | assumption | exact (fun h_ => ⟨(congrFun g_1 0).trans (f_0_3 h_).1, (f_0_3 h_).2⟩) | (intro h_; simp_all)), (by first | with_reducible rfl | (symm; with_reducible assumption) | (symm; subst_vars; with_reducible exact acX_rst) | (symm; subst_vars; with_reducible exact acX_lev) | rfl | (symm; assumption) | (symm; subst_vars; exact acX_rst) | (symm; subst_vars; exact acX_lev) | (subst_vars; rfl)), (by first | with_reducible rfl | (symm; with_reducible assumption) | (symm; subst_vars; with_reducible exact acX_rst) | (symm; subst_vars; with_reducible exact acX_lev) | rfl | (symm; assumption) | (symm; subst_vars; exact acX_rst) | (symm; subst_vars; exact acX_lev) | (subst_vars; rfl)), rfl, rfl, rfl, rfl, rfl, rfl, rfl, rfl, rfl, rfl, (by first | with_reducible rfl | (symm; with_reducible assumption) | (symm; subst_vars; with_reducible exact acX_rst) | (symm; subst_vars; with_reducible exact acX_lev) | rfl | (symm; assumption) | (symm; subst_vars; exact acX_rst) | (symm; subst_vars; exact acX_lev) | (subst_vars; rfl)), (by first | with_reducible rfl | (symm; with_reducible assumption) | (symm; subst_vars; with_reducible exact acX_rst) | (symm; subst_vars; with_reducible exact acX_lev) | rfl | (symm; assumption) | (symm; subst_vars; exact acX_rst) | (symm; subst_vars; exact acX_lev) | (subst_vars; rfl))⟩⟩, (pmB [0, 1, 2, 3, 4, 5, 6, 7, 8, 9, 10, 11, 12, 13] 14 rfl (by decide +kernel) rfl)⟩
set_option maxHeartbeats 4000000 in
set_option maxRecDepth 100000 in
theorem w_X8_set (l : Launch) (dC : Nat → ClassId) (dI : Nat → Nat → Nat) (cI cZ cL cJ : ClassId) (sz : Nat) (mo : Nat) (Rl : Nat → Int32) (Rn : Nat → Int32) (zt : Nat) (Tb : Nat → Int32) (lf : Int32) (Lv : Nat → Int32) (An : Nat) (Ac : Nat → Nat → Int32) (I0 : Nat → Int32) (I1 : Nat → Int32) (Tz : Nat) (Tc : Nat → Int32) (sg : Int32) (It : Nat → Nat → Int32) (ws : va_W) (a0 a1 a2 : Int32)  (hI : ISM cI cZ cL cJ mo Rl Rn zt Tb lf Lv An Ac I0 I1 Tz Tc sg It ws) : Met l yX8_set wsX8_set ({ frames := 2, cells := 0, slots := 0, locals := 45 }) (va_Pc [.ref mo, .int a0, .int a1, .int a2] (wpx dC dI [(cI, .int), (cZ, .boolean), (cL, .object RX3), (cJ, .array .int)] sz ws)) (va_Qi (fun r (_ : Unit) => r = ar_set Rl Rn a0 a1 a2) (fun _ t => wox dC dI (ISM cI cZ cL cJ mo Rl Rn zt Tb lf Lv An Ac I0 I1 Tz Tc (f_set Rl Rn a0 a1 sg) (n_its Rl Rn It a0 a1 a2)) sz ws t) (va_A ws sz)) 0 0 (va_A ws sz) := by
  refine ISM_el (P := fun (ws : va_W) => Met l yX8_set wsX8_set ({ frames := 2, cells := 0, slots := 0, locals := 45 }) (va_Pc [.ref mo, .int a0, .int a1, .int a2] (wpx dC dI [(cI, .int), (cZ, .boolean), (cL, .object RX3), (cJ, .array .int)] sz ws)) (va_Qi (fun r (_ : Unit) => r = ar_set Rl Rn a0 a1 a2) (fun _ t => wox dC dI (ISM cI cZ cL cJ mo Rl Rn zt Tb lf Lv An Ac I0 I1 Tz Tc (f_set Rl Rn a0 a1 sg) (n_its Rl Rn It a0 a1 a2)) sz ws t) (va_A ws sz)) 0 0 (va_A ws sz)) hI (fun ad iv gf mz mp ma mx w9 k9 h9 f_0_0 f_0_1 f_0_2 f_0_3 f_0_4 f_0_5 f_0_6 f_0_7 f_0_8 f_0_9 f_0_10 f_0_11 eq_0_0 eq_0_1 eq_0_2 eq_0_3 eq_0_4 eq_0_5 eq_0_6 eq_0_7 eq_0_8 eq_0_9 eq_0_10 eq_0_11 eq_0_12 eq_0_13 hI0 => ?_)
  subst eq_0_0
  subst eq_0_1
  obtain rfl : mz = zt := eq_0_2.symm
  subst eq_0_3
  subst eq_0_4
  subst eq_0_5
  obtain rfl : ma = An := eq_0_6.symm
  subst eq_0_7
  subst eq_0_8
  subst eq_0_9
  obtain rfl : mx = Tz := eq_0_10.symm
  subst eq_0_11
  subst eq_0_12
  subst eq_0_13
  refine wd_Bi (cs := [[(xo_8_rrriirrriiiiiiirrirrrrri mo (ad 0) (ad 1) (ad 2) (iv 0) (iv 1) (ad 3) (ad 4) (ad 5) (nI mz) (iv 2) (nI mp) (iv 3) (iv 4) (iv 5) (iv 6) (ad 6) (ad 7) (nI ma) (ad 8) (ad 9) (ad 10) (ad 11) (ad 12) (nI mx))], [(xI (ad 0) cI 8 (gf 0))], [(xI (ad 1) cI 8 (gf 1))], [(xI (ad 2) cI 320 (gf 2))]]) (rs := [[(xI (ad 3) cI 38 (gf 3))], [(xI (ad 4) cI 40 (gf 4))], [(xI (ad 5) cI 120 (gf 5))], [(xI (ad 6) cI 38 (gf 6))], [(xI (ad 7) cI 912 (gf 7))], [(xI (ad 8) cI 38 (gf 8))], [(xI (ad 9) cI 16 (gf 9))], [(xI (ad 10) cZ 2 (gf 10))], [(xI (ad 11) cI 76 (gf 11))], [(xI (ad 12) cI 16 (gf 12))]]) (r_X8_set l dC dI cI cZ cL cJ sz mo (ad 0) (ad 1) (ad 2) (ad 3) (ad 4) (ad 5) (ad 6) (ad 7) (ad 8) (ad 9) (ad 10) (ad 11) (ad 12) (iv 0) (iv 1) (iv 2) (iv 3) (iv 4) (iv 5) (iv 6) mz mp ma mx (gf 0) (gf 1) (gf 2) a0 a1 a2 (by first | with_reducible assumption | assumption) (by first | with_reducible assumption | assumption)) rfl (pmB [0, 1, 2, 3, 4, 5, 6, 7, 8, 9, 10, 11, 12, 13] 14 rfl (by decide +kernel) rfl) ?_
  rintro t r e2 ⟨fin_, msn, hP1, hD1, g_0, g_1⟩
  exact ⟨e2, [[(xo_8_rrriirrriiiiiiirrirrrrri mo (ad 0) (ad 1) (ad 2) msn (iv 1) (ad 3) (ad 4) (ad 5) (nI mz) (iv 2) (nI mp) (iv 3) (iv 4) (iv 5) (iv 6) (ad 6) (ad 7) (nI ma) (ad 8) (ad 9) (ad 10) (ad 11) (ad 12) (nI mx))], [(xI (ad 0) cI 8 (gf 0))], [(xI (ad 1) cI 8 (gf 1))], [(xI (ad 2) cI 320 fin_)]], [[(xo_8_rrriirrriiiiiiirrirrrrri mo (ad 0) (ad 1) (ad 2) msn (iv 1) (ad 3) (ad 4) (ad 5) (nI mz) (iv 2) (nI mp) (iv 3) (iv 4) (iv 5) (iv 6) (ad 6) (ad 7) (nI ma) (ad 8) (ad 9) (ad 10) (ad 11) (ad 12) (nI mx))], [(xI (ad 0) cI 8 (gf 0))], [(xI (ad 1) cI 8 (gf 1))], [(xI (ad 2) cI 320 fin_)], [(xI (ad 3) cI 38 (gf 3))], [(xI (ad 4) cI 40 (gf 4))], [(xI (ad 5) cI 120 (gf 5))], [(xI (ad 6) cI 38 (gf 6))], [(xI (ad 7) cI 912 (gf 7))], [(xI (ad 8) cI 38 (gf 8))], [(xI (ad 9) cI 16 (gf 9))], [(xI (ad 10) cZ 2 (gf 10))], [(xI (ad 11) cI 76 (gf 11))], [(xI (ad 12) cI 16 (gf 12))]], hP1, hD1, ⟨_, _, _, _, _, _, _, _, _, _, _, _, _, _, rfl, ⟨ad, (fun k => [msn, (iv 1), (iv 2), (iv 3), (iv 4), (iv 5), (iv 6)].getD k 0), (fun k => [(gf 0), (gf 1), fin_, (gf 3), (gf 4), (gf 5), (gf 6), (gf 7), (gf 8), (gf 9), (gf 10), (gf 11), (gf 12)].getD k (fun _ => 0)), mz, mp, ma, mx, w9, k9, h9, rfl, rfl, rfl, rfl, rfl, rfl, rfl, rfl, rfl, rfl, rfl, rfl, rfl, rfl, f_0_0, f_0_1, f_0_2, f_0_3, f_0_4, f_0_5, f_0_6, f_0_7, f_0_8, f_0_9, f_0_10, f_0_11, rfl, rfl, rfl, rfl, rfl, rfl, rfl, rfl, rfl, rfl, rfl, rfl, (by first | with_reducible rfl | (symm; with_reducible assumption) | (symm; subst_vars; with_reducible exact acX_rst) | (symm; subst_vars; with_reducible exact acX_lev) | rfl | (symm; assumption) | (symm; subst_vars; exact acX_rst) | (symm; subst_vars; exact acX_lev) | (subst_vars; rfl)), (by first | with_reducible rfl | (symm; with_reducible assumption) | (symm; subst_vars; with_reducible exact acX_rst) | (symm; subst_vars; with_reducible exact acX_lev) | rfl | (symm; assumption) | (symm; subst_vars; exact acX_rst) | (symm; subst_vars; exact acX_lev) | (subst_vars; rfl))⟩⟩, (pmB [0, 1, 2, 3, 4, 5, 6, 7, 8, 9, 10, 11, 12, 13] 14 rfl (by decide +kernel) rfl)⟩
set_option maxHeartbeats 4000000 in
set_option maxRecDepth 100000 in
theorem w_X8_copy (l : Launch) (dC : Nat → ClassId) (dI : Nat → Nat → Nat) (cI cZ cL cJ : ClassId) (sz : Nat) (mo : Nat) (Rl : Nat → Int32) (Rn : Nat → Int32) (zt : Nat) (Tb : Nat → Int32) (lf : Int32) (Lv : Nat → Int32) (An : Nat) (Ac : Nat → Nat → Int32) (I0 : Nat → Int32) (I1 : Nat → Int32) (Tz : Nat) (Tc : Nat → Int32) (sg : Int32) (It : Nat → Nat → Int32) (ws : va_W) (a0 a1 a2 a3 a4 : Int32)  (hI : ISM cI cZ cL cJ mo Rl Rn zt Tb lf Lv An Ac I0 I1 Tz Tc sg It ws) : Met l yX8_copy wsX8_copy ({ frames := 2, cells := 0, slots := 0, locals := 45 }) (va_Pc [.ref mo, .int a0, .int a1, .int a2, .int a3, .int a4] (wpx dC dI [(cI, .int), (cZ, .boolean), (cL, .object RX3), (cJ, .array .int)] sz ws)) (va_Qi (fun r (_ : Unit) => r = ar_copy Rl Rn a0 a1 a2 a3 a4) (fun _ t => wox dC dI (ISM cI cZ cL cJ mo Rl Rn zt Tb lf Lv An Ac I0 I1 Tz Tc (f_copy Rl Rn a0 a1 a2 a3 a4 sg) (n_itc Rl Rn It a0 a1 a2 a3 a4)) sz ws t) (va_A ws sz)) 0 0 (va_A ws sz) := by
  refine ISM_el (P := fun (ws : va_W) => Met l yX8_copy wsX8_copy ({ frames := 2, cells := 0, slots := 0, locals := 45 }) (va_Pc [.ref mo, .int a0, .int a1, .int a2, .int a3, .int a4] (wpx dC dI [(cI, .int), (cZ, .boolean), (cL, .object RX3), (cJ, .array .int)] sz ws)) (va_Qi (fun r (_ : Unit) => r = ar_copy Rl Rn a0 a1 a2 a3 a4) (fun _ t => wox dC dI (ISM cI cZ cL cJ mo Rl Rn zt Tb lf Lv An Ac I0 I1 Tz Tc (f_copy Rl Rn a0 a1 a2 a3 a4 sg) (n_itc Rl Rn It a0 a1 a2 a3 a4)) sz ws t) (va_A ws sz)) 0 0 (va_A ws sz)) hI (fun ad iv gf mz mp ma mx w9 k9 h9 f_0_0 f_0_1 f_0_2 f_0_3 f_0_4 f_0_5 f_0_6 f_0_7 f_0_8 f_0_9 f_0_10 f_0_11 eq_0_0 eq_0_1 eq_0_2 eq_0_3 eq_0_4 eq_0_5 eq_0_6 eq_0_7 eq_0_8 eq_0_9 eq_0_10 eq_0_11 eq_0_12 eq_0_13 hI0 => ?_)
  subst eq_0_0
  subst eq_0_1
  obtain rfl : mz = zt := eq_0_2.symm
  subst eq_0_3
  subst eq_0_4
  subst eq_0_5
  obtain rfl : ma = An := eq_0_6.symm
  subst eq_0_7
  subst eq_0_8
  subst eq_0_9
  obtain rfl : mx = Tz := eq_0_10.symm
  subst eq_0_11
  subst eq_0_12
  subst eq_0_13
  refine wd_Bi (cs := [[(xo_8_rrriirrriiiiiiirrirrrrri mo (ad 0) (ad 1) (ad 2) (iv 0) (iv 1) (ad 3) (ad 4) (ad 5) (nI mz) (iv 2) (nI mp) (iv 3) (iv 4) (iv 5) (iv 6) (ad 6) (ad 7) (nI ma) (ad 8) (ad 9) (ad 10) (ad 11) (ad 12) (nI mx))], [(xI (ad 0) cI 8 (gf 0))], [(xI (ad 1) cI 8 (gf 1))], [(xI (ad 2) cI 320 (gf 2))], [(xI (ad 4) cI 40 (gf 4))]]) (rs := [[(xI (ad 3) cI 38 (gf 3))], [(xI (ad 5) cI 120 (gf 5))], [(xI (ad 6) cI 38 (gf 6))], [(xI (ad 7) cI 912 (gf 7))], [(xI (ad 8) cI 38 (gf 8))], [(xI (ad 9) cI 16 (gf 9))], [(xI (ad 10) cZ 2 (gf 10))], [(xI (ad 11) cI 76 (gf 11))], [(xI (ad 12) cI 16 (gf 12))]]) (r_X8_copy l dC dI cI cZ cL cJ sz mo (ad 0) (ad 1) (ad 2) (ad 3) (ad 4) (ad 5) (ad 6) (ad 7) (ad 8) (ad 9) (ad 10) (ad 11) (ad 12) (iv 0) (iv 1) (iv 2) (iv 3) (iv 4) (iv 5) (iv 6) mz mp ma mx (gf 0) (gf 1) (gf 2) (gf 4) a0 a1 a2 a3 a4 (by first | with_reducible assumption | assumption) (by first | with_reducible assumption | assumption)) rfl (pmB [0, 1, 2, 3, 5, 4, 6, 7, 8, 9, 10, 11, 12, 13] 14 rfl (by decide +kernel) rfl) ?_
  rintro t r e2 ⟨fin_, fmn, msn, hP1, hD1, g_0, g_1⟩
  exact ⟨e2, [[(xo_8_rrriirrriiiiiiirrirrrrri mo (ad 0) (ad 1) (ad 2) msn (iv 1) (ad 3) (ad 4) (ad 5) (nI mz) (iv 2) (nI mp) (iv 3) (iv 4) (iv 5) (iv 6) (ad 6) (ad 7) (nI ma) (ad 8) (ad 9) (ad 10) (ad 11) (ad 12) (nI mx))], [(xI (ad 0) cI 8 (gf 0))], [(xI (ad 1) cI 8 (gf 1))], [(xI (ad 2) cI 320 fin_)], [(xI (ad 4) cI 40 fmn)]], [[(xo_8_rrriirrriiiiiiirrirrrrri mo (ad 0) (ad 1) (ad 2) msn (iv 1) (ad 3) (ad 4) (ad 5) (nI mz) (iv 2) (nI mp) (iv 3) (iv 4) (iv 5) (iv 6) (ad 6) (ad 7) (nI ma) (ad 8) (ad 9) (ad 10) (ad 11) (ad 12) (nI mx))], [(xI (ad 0) cI 8 (gf 0))], [(xI (ad 1) cI 8 (gf 1))], [(xI (ad 2) cI 320 fin_)], [(xI (ad 3) cI 38 (gf 3))], [(xI (ad 4) cI 40 fmn)], [(xI (ad 5) cI 120 (gf 5))], [(xI (ad 6) cI 38 (gf 6))], [(xI (ad 7) cI 912 (gf 7))], [(xI (ad 8) cI 38 (gf 8))], [(xI (ad 9) cI 16 (gf 9))], [(xI (ad 10) cZ 2 (gf 10))], [(xI (ad 11) cI 76 (gf 11))], [(xI (ad 12) cI 16 (gf 12))]], hP1, hD1, ⟨_, _, _, _, _, _, _, _, _, _, _, _, _, _, rfl, ⟨ad, (fun k => [msn, (iv 1), (iv 2), (iv 3), (iv 4), (iv 5), (iv 6)].getD k 0), (fun k => [(gf 0), (gf 1), fin_, (gf 3), fmn, (gf 5), (gf 6), (gf 7), (gf 8), (gf 9), (gf 10), (gf 11), (gf 12)].getD k (fun _ => 0)), mz, mp, ma, mx, w9, k9, h9, rfl, rfl, rfl, rfl, rfl, rfl, rfl, rfl, rfl, rfl, rfl, rfl, rfl, rfl, f_0_0, f_0_1, f_0_2, f_0_3, f_0_4, f_0_5, f_0_6, f_0_7, f_0_8, f_0_9, f_0_10, f_0_11, rfl, rfl, rfl, rfl, rfl, rfl, rfl, rfl, rfl, rfl, rfl, rfl, (by first | with_reducible rfl | (symm; with_reducible assumption) | (symm; subst_vars; with_reducible exact acX_rst) | (symm; subst_vars; with_reducible exact acX_lev) | rfl | (symm; assumption) | (symm; subst_vars; exact acX_rst) | (symm; subst_vars; exact acX_lev) | (subst_vars; rfl)), (by first | with_reducible rfl | (symm; with_reducible assumption) | (symm; subst_vars; with_reducible exact acX_rst) | (symm; subst_vars; with_reducible exact acX_lev) | rfl | (symm; assumption) | (symm; subst_vars; exact acX_rst) | (symm; subst_vars; exact acX_lev) | (subst_vars; rfl))⟩⟩, (pmB [0, 1, 2, 3, 5, 4, 6, 7, 8, 9, 10, 11, 12, 13] 14 rfl (by decide +kernel) rfl)⟩
set_option maxHeartbeats 4000000 in
set_option maxRecDepth 100000 in
theorem w_X8_drop (l : Launch) (dC : Nat → ClassId) (dI : Nat → Nat → Nat) (cI cZ cL cJ : ClassId) (sz : Nat) (mo : Nat) (Rl : Nat → Int32) (Rn : Nat → Int32) (zt : Nat) (Tb : Nat → Int32) (lf : Int32) (Lv : Nat → Int32) (An : Nat) (Ac : Nat → Nat → Int32) (I0 : Nat → Int32) (I1 : Nat → Int32) (Tz : Nat) (Tc : Nat → Int32) (sg : Int32) (It : Nat → Nat → Int32) (ws : va_W) (a0 : Int32)  (hI : ISM cI cZ cL cJ mo Rl Rn zt Tb lf Lv An Ac I0 I1 Tz Tc sg It ws) : Met l yX8_drop wsX8_drop ({ frames := 2, cells := 0, slots := 0, locals := 45 }) (va_Pc [.ref mo, .int a0] (wpx dC dI [(cI, .int), (cZ, .boolean), (cL, .object RX3), (cJ, .array .int)] sz ws)) (va_Qi (fun r (_ : Unit) => r = ar_drop Rl Rn a0) (fun _ t => wox dC dI (ISM cI cZ cL cJ mo (sd_l Rl a0) (sd_n Rn a0) zt Tb lf Lv An Ac I0 I1 Tz Tc (f_drop Rl a0 sg) It) sz ws t) (va_A ws sz)) 0 0 (va_A ws sz) := by
  refine ISM_el (P := fun (ws : va_W) => Met l yX8_drop wsX8_drop ({ frames := 2, cells := 0, slots := 0, locals := 45 }) (va_Pc [.ref mo, .int a0] (wpx dC dI [(cI, .int), (cZ, .boolean), (cL, .object RX3), (cJ, .array .int)] sz ws)) (va_Qi (fun r (_ : Unit) => r = ar_drop Rl Rn a0) (fun _ t => wox dC dI (ISM cI cZ cL cJ mo (sd_l Rl a0) (sd_n Rn a0) zt Tb lf Lv An Ac I0 I1 Tz Tc (f_drop Rl a0 sg) It) sz ws t) (va_A ws sz)) 0 0 (va_A ws sz)) hI (fun ad iv gf mz mp ma mx w9 k9 h9 f_0_0 f_0_1 f_0_2 f_0_3 f_0_4 f_0_5 f_0_6 f_0_7 f_0_8 f_0_9 f_0_10 f_0_11 eq_0_0 eq_0_1 eq_0_2 eq_0_3 eq_0_4 eq_0_5 eq_0_6 eq_0_7 eq_0_8 eq_0_9 eq_0_10 eq_0_11 eq_0_12 eq_0_13 hI0 => ?_)
  subst eq_0_0
  subst eq_0_1
  obtain rfl : mz = zt := eq_0_2.symm
  subst eq_0_3
  subst eq_0_4
  subst eq_0_5
  obtain rfl : ma = An := eq_0_6.symm
  subst eq_0_7
  subst eq_0_8
  subst eq_0_9
  obtain rfl : mx = Tz := eq_0_10.symm
  subst eq_0_11
  subst eq_0_12
  subst eq_0_13
  refine wd_Bi (cs := [[(xo_8_rrriirrriiiiiiirrirrrrri mo (ad 0) (ad 1) (ad 2) (iv 0) (iv 1) (ad 3) (ad 4) (ad 5) (nI mz) (iv 2) (nI mp) (iv 3) (iv 4) (iv 5) (iv 6) (ad 6) (ad 7) (nI ma) (ad 8) (ad 9) (ad 10) (ad 11) (ad 12) (nI mx))], [(xI (ad 0) cI 8 (gf 0))], [(xI (ad 1) cI 8 (gf 1))]]) (rs := [[(xI (ad 2) cI 320 (gf 2))], [(xI (ad 3) cI 38 (gf 3))], [(xI (ad 4) cI 40 (gf 4))], [(xI (ad 5) cI 120 (gf 5))], [(xI (ad 6) cI 38 (gf 6))], [(xI (ad 7) cI 912 (gf 7))], [(xI (ad 8) cI 38 (gf 8))], [(xI (ad 9) cI 16 (gf 9))], [(xI (ad 10) cZ 2 (gf 10))], [(xI (ad 11) cI 76 (gf 11))], [(xI (ad 12) cI 16 (gf 12))]]) (r_X8_drop l dC dI cI cZ cL cJ sz mo (ad 0) (ad 1) (ad 2) (ad 3) (ad 4) (ad 5) (ad 6) (ad 7) (ad 8) (ad 9) (ad 10) (ad 11) (ad 12) (iv 0) (iv 1) (iv 2) (iv 3) (iv 4) (iv 5) (iv 6) mz mp ma mx (gf 0) (gf 1) a0 (by first | with_reducible assumption | assumption) (by first | with_reducible assumption | assumption)) rfl (pmB [0, 1, 2, 3, 4, 5, 6, 7, 8, 9, 10, 11, 12, 13] 14 rfl (by decide +kernel) rfl) ?_
  rintro t r e2 ⟨fzn, msn, hP1, hD1, g_0, g_1, g_2, g_3, g_4⟩
  exact ⟨e2, [[(xo_8_rrriirrriiiiiiirrirrrrri mo (ad 0) (ad 1) (ad 2) msn (iv 1) (ad 3) (ad 4) (ad 5) (nI mz) (iv 2) (nI mp) (iv 3) (iv 4) (iv 5) (iv 6) (ad 6) (ad 7) (nI ma) (ad 8) (ad 9) (ad 10) (ad 11) (ad 12) (nI mx))], [(xI (ad 0) cI 8 (gf 0))], [(xI (ad 1) cI 8 fzn)]], [[(xo_8_rrriirrriiiiiiirrirrrrri mo (ad 0) (ad 1) (ad 2) msn (iv 1) (ad 3) (ad 4) (ad 5) (nI mz) (iv 2) (nI mp) (iv 3) (iv 4) (iv 5) (iv 6) (ad 6) (ad 7) (nI ma) (ad 8) (ad 9) (ad 10) (ad 11) (ad 12) (nI mx))], [(xI (ad 0) cI 8 (gf 0))], [(xI (ad 1) cI 8 fzn)], [(xI (ad 2) cI 320 (gf 2))], [(xI (ad 3) cI 38 (gf 3))], [(xI (ad 4) cI 40 (gf 4))], [(xI (ad 5) cI 120 (gf 5))], [(xI (ad 6) cI 38 (gf 6))], [(xI (ad 7) cI 912 (gf 7))], [(xI (ad 8) cI 38 (gf 8))], [(xI (ad 9) cI 16 (gf 9))], [(xI (ad 10) cZ 2 (gf 10))], [(xI (ad 11) cI 76 (gf 11))], [(xI (ad 12) cI 16 (gf 12))]], hP1, hD1, ⟨_, _, _, _, _, _, _, _, _, _, _, _, _, _, rfl, ⟨ad, (fun k => [msn, (iv 1), (iv 2), (iv 3), (iv 4), (iv 5), (iv 6)].getD k 0), (fun k => [(gf 0), fzn, (gf 2), (gf 3), (gf 4), (gf 5), (gf 6), (gf 7), (gf 8), (gf 9), (gf 10), (gf 11), (gf 12)].getD k (fun _ => 0)), mz, mp, ma, mx, w9, k9, h9, rfl, rfl, rfl, rfl, rfl, rfl, rfl, rfl, rfl, rfl, rfl, rfl, rfl, rfl, f_0_0, f_0_1, f_0_2, f_0_3, f_0_4, f_0_5, f_0_6, f_0_7, f_0_8, f_0_9, (by first | with_reducible assumption | omega | assumption | exact (fun h_ => ⟨(congrFun g_1 0).trans (f_0_3 h_).1, (f_0_3 h_).2⟩) | (intro h_; simp_all)), (by first | with_reducible assumption | omega | assumption | exact (fun h_ => ⟨(congrFun g_1 0).trans (f_0_3 h_).1, (f_0_3 h_).2⟩) | (intro h_; simp_all)), (by first | with_reducible rfl | (symm; with_reducible assumption) | (symm; subst_vars; with_reducible exact acX_rst) | (symm; subst_vars; with_reducible exact acX_lev) | rfl | (symm; assumption) | (symm; subst_vars; exact acX_rst) | (symm; subst_vars; exact acX_lev) | (subst_vars; rfl)), (by first | with_reducible rfl | (symm; with_reducible assumption) | (symm; subst_vars; with_reducible exact acX_rst) | (symm; subst_vars; with_reducible exact acX_lev) | rfl | (symm; assumption) | (symm; subst_vars; exact acX_rst) | (symm; subst_vars; exact acX_lev) | (subst_vars; rfl)), rfl, rfl, rfl, rfl, rfl, rfl, rfl, rfl, rfl, rfl, (by first | with_reducible rfl | (symm; with_reducible assumption) | (symm; subst_vars; with_reducible exact acX_rst) | (symm; subst_vars; with_reducible exact acX_lev) | rfl | (symm; assumption) | (symm; subst_vars; exact acX_rst) | (symm; subst_vars; exact acX_lev) | (subst_vars; rfl)), rfl⟩⟩, (pmB [0, 1, 2, 3, 4, 5, 6, 7, 8, 9, 10, 11, 12, 13] 14 rfl (by decide +kernel) rfl)⟩
set_option maxHeartbeats 4000000 in
set_option maxRecDepth 100000 in
theorem w_X8_feed (l : Launch) (dC : Nat → ClassId) (dI : Nat → Nat → Nat) (cI cZ cL cJ : ClassId) (sz : Nat) (mo : Nat) (Rl : Nat → Int32) (Rn : Nat → Int32) (zt : Nat) (Tb : Nat → Int32) (lf : Int32) (Lv : Nat → Int32) (An : Nat) (Ac : Nat → Nat → Int32) (I0 : Nat → Int32) (I1 : Nat → Int32) (Tz : Nat) (Tc : Nat → Int32) (sg : Int32) (It : Nat → Nat → Int32) (ws : va_W) (a0 : Int32)  (hI : ISM cI cZ cL cJ mo Rl Rn zt Tb lf Lv An Ac I0 I1 Tz Tc sg It ws) : Met l yX8_feed wsX8_feed ({ frames := 1, cells := 0, slots := 0, locals := 25 }) (va_Pc [.ref mo, .int a0] (wpx dC dI [(cI, .int), (cZ, .boolean), (cL, .object RX3), (cJ, .array .int)] sz ws)) (va_Qi (fun r (_ : Unit) => r = an_fd zt a0) (fun _ t => wox dC dI (ISM cI cZ cL cJ mo Rl Rn (sf_z zt a0) (sf_b Tb zt a0) lf Lv An Ac I0 I1 Tz Tc sg It) sz ws t) (va_A ws sz)) 0 0 (va_A ws sz) := by
  refine ISM_el (P := fun (ws : va_W) => Met l yX8_feed wsX8_feed ({ frames := 1, cells := 0, slots := 0, locals := 25 }) (va_Pc [.ref mo, .int a0] (wpx dC dI [(cI, .int), (cZ, .boolean), (cL, .object RX3), (cJ, .array .int)] sz ws)) (va_Qi (fun r (_ : Unit) => r = an_fd zt a0) (fun _ t => wox dC dI (ISM cI cZ cL cJ mo Rl Rn (sf_z zt a0) (sf_b Tb zt a0) lf Lv An Ac I0 I1 Tz Tc sg It) sz ws t) (va_A ws sz)) 0 0 (va_A ws sz)) hI (fun ad iv gf mz mp ma mx w9 k9 h9 f_0_0 f_0_1 f_0_2 f_0_3 f_0_4 f_0_5 f_0_6 f_0_7 f_0_8 f_0_9 f_0_10 f_0_11 eq_0_0 eq_0_1 eq_0_2 eq_0_3 eq_0_4 eq_0_5 eq_0_6 eq_0_7 eq_0_8 eq_0_9 eq_0_10 eq_0_11 eq_0_12 eq_0_13 hI0 => ?_)
  subst eq_0_0
  subst eq_0_1
  obtain rfl : mz = zt := eq_0_2.symm
  subst eq_0_3
  subst eq_0_4
  subst eq_0_5
  obtain rfl : ma = An := eq_0_6.symm
  subst eq_0_7
  subst eq_0_8
  subst eq_0_9
  obtain rfl : mx = Tz := eq_0_10.symm
  subst eq_0_11
  subst eq_0_12
  subst eq_0_13
  refine wd_Bi (cs := [[(xo_8_rrriirrriiiiiiirrirrrrri mo (ad 0) (ad 1) (ad 2) (iv 0) (iv 1) (ad 3) (ad 4) (ad 5) (nI mz) (iv 2) (nI mp) (iv 3) (iv 4) (iv 5) (iv 6) (ad 6) (ad 7) (nI ma) (ad 8) (ad 9) (ad 10) (ad 11) (ad 12) (nI mx))], [(xI (ad 5) cI 120 (gf 5))]]) (rs := [[(xI (ad 0) cI 8 (gf 0))], [(xI (ad 1) cI 8 (gf 1))], [(xI (ad 2) cI 320 (gf 2))], [(xI (ad 3) cI 38 (gf 3))], [(xI (ad 4) cI 40 (gf 4))], [(xI (ad 6) cI 38 (gf 6))], [(xI (ad 7) cI 912 (gf 7))], [(xI (ad 8) cI 38 (gf 8))], [(xI (ad 9) cI 16 (gf 9))], [(xI (ad 10) cZ 2 (gf 10))], [(xI (ad 11) cI 76 (gf 11))], [(xI (ad 12) cI 16 (gf 12))]]) (r_X8_feed l dC dI cI cZ cL cJ sz mo (ad 0) (ad 1) (ad 2) (ad 3) (ad 4) (ad 5) (ad 6) (ad 7) (ad 8) (ad 9) (ad 10) (ad 11) (ad 12) (iv 0) (iv 1) (iv 2) (iv 3) (iv 4) (iv 5) (iv 6) mz mp ma mx (gf 5) a0 (by first | with_reducible assumption | assumption)) rfl (pmB [0, 6, 1, 2, 3, 4, 5, 7, 8, 9, 10, 11, 12, 13] 14 rfl (by decide +kernel) rfl) ?_
  rintro t r e2 ⟨mzn, ftn_, hP1, hD1, g_0, g_1, g_2⟩
  exact ⟨e2, [[(xo_8_rrriirrriiiiiiirrirrrrri mo (ad 0) (ad 1) (ad 2) (iv 0) (iv 1) (ad 3) (ad 4) (ad 5) (nI mzn) (iv 2) (nI mp) (iv 3) (iv 4) (iv 5) (iv 6) (ad 6) (ad 7) (nI ma) (ad 8) (ad 9) (ad 10) (ad 11) (ad 12) (nI mx))], [(xI (ad 5) cI 120 ftn_)]], [[(xo_8_rrriirrriiiiiiirrirrrrri mo (ad 0) (ad 1) (ad 2) (iv 0) (iv 1) (ad 3) (ad 4) (ad 5) (nI mzn) (iv 2) (nI mp) (iv 3) (iv 4) (iv 5) (iv 6) (ad 6) (ad 7) (nI ma) (ad 8) (ad 9) (ad 10) (ad 11) (ad 12) (nI mx))], [(xI (ad 0) cI 8 (gf 0))], [(xI (ad 1) cI 8 (gf 1))], [(xI (ad 2) cI 320 (gf 2))], [(xI (ad 3) cI 38 (gf 3))], [(xI (ad 4) cI 40 (gf 4))], [(xI (ad 5) cI 120 ftn_)], [(xI (ad 6) cI 38 (gf 6))], [(xI (ad 7) cI 912 (gf 7))], [(xI (ad 8) cI 38 (gf 8))], [(xI (ad 9) cI 16 (gf 9))], [(xI (ad 10) cZ 2 (gf 10))], [(xI (ad 11) cI 76 (gf 11))], [(xI (ad 12) cI 16 (gf 12))]], hP1, hD1, ⟨_, _, _, _, _, _, _, _, _, _, _, _, _, _, rfl, ⟨ad, iv, (fun k => [(gf 0), (gf 1), (gf 2), (gf 3), (gf 4), ftn_, (gf 6), (gf 7), (gf 8), (gf 9), (gf 10), (gf 11), (gf 12)].getD k (fun _ => 0)), mzn, mp, ma, mx, w9, k9, h9, rfl, rfl, rfl, rfl, rfl, rfl, rfl, rfl, rfl, rfl, rfl, rfl, rfl, rfl, f_0_0, f_0_1, f_0_2, f_0_3, f_0_4, f_0_5, f_0_6, f_0_7, (by first | with_reducible assumption | omega | assumption | exact (fun h_ => ⟨(congrFun g_1 0).trans (f_0_3 h_).1, (f_0_3 h_).2⟩) | (intro h_; simp_all)), f_0_9, f_0_10, f_0_11, rfl, rfl, (by first | with_reducible rfl | (symm; with_reducible assumption) | (symm; subst_vars; with_reducible exact acX_rst) | (symm; subst_vars; with_reducible exact acX_lev) | rfl | (symm; assumption) | (symm; subst_vars; exact acX_rst) | (symm; subst_vars; exact acX_lev) | (subst_vars; rfl)), (by first | with_reducible rfl | (symm; with_reducible assumption) | (symm; subst_vars; with_reducible exact acX_rst) | (symm; subst_vars; with_reducible exact acX_lev) | rfl | (symm; assumption) | (symm; subst_vars; exact acX_rst) | (symm; subst_vars; exact acX_lev) | (subst_vars; rfl)), rfl, rfl, rfl, rfl, rfl, rfl, rfl, rfl, rfl, rfl⟩⟩, (pmB [0, 6, 1, 2, 3, 4, 5, 7, 8, 9, 10, 11, 12, 13] 14 rfl (by decide +kernel) rfl)⟩
set_option maxHeartbeats 4000000 in
set_option maxRecDepth 100000 in
theorem w_X8_level (l : Launch) (dC : Nat → ClassId) (dI : Nat → Nat → Nat) (cI cZ cL cJ : ClassId) (sz : Nat) (mo : Nat) (Rl : Nat → Int32) (Rn : Nat → Int32) (zt : Nat) (Tb : Nat → Int32) (lf : Int32) (Lv : Nat → Int32) (An : Nat) (Ac : Nat → Nat → Int32) (I0 : Nat → Int32) (I1 : Nat → Int32) (Tz : Nat) (Tc : Nat → Int32) (sg : Int32) (It : Nat → Nat → Int32) (ws : va_W)  (hI : ISM cI cZ cL cJ mo Rl Rn zt Tb lf Lv An Ac I0 I1 Tz Tc sg It ws) : Met l yX8_level wsX8_level ({ frames := 6, cells := 0, slots := 0, locals := 133 }) (va_Pc [.ref mo] (wpx dC dI [(cI, .int), (cZ, .boolean), (cL, .object RX3), (cJ, .array .int)] sz ws)) (va_Qi (fun r (_ : Unit) => r = lvA Tb zt) (fun _ t => wox dC dI (ISM cI cZ cL cJ mo Rl Rn 0 Tb (lvF Tb zt lf) (n_lev ((rR Tb zt).2 = 0) (rR Tb zt).1.2 Lv) (n_levN ((rR Tb zt).2 = 0) An) (n_levA ((rR Tb zt).2 = 0) Ac) I0 I1 Tz Tc sg It) sz ws t) (va_A ws sz)) 0 0 (va_A ws sz) := by
  refine ISM_el (P := fun (ws : va_W) => Met l yX8_level wsX8_level ({ frames := 6, cells := 0, slots := 0, locals := 133 }) (va_Pc [.ref mo] (wpx dC dI [(cI, .int), (cZ, .boolean), (cL, .object RX3), (cJ, .array .int)] sz ws)) (va_Qi (fun r (_ : Unit) => r = lvA Tb zt) (fun _ t => wox dC dI (ISM cI cZ cL cJ mo Rl Rn 0 Tb (lvF Tb zt lf) (n_lev ((rR Tb zt).2 = 0) (rR Tb zt).1.2 Lv) (n_levN ((rR Tb zt).2 = 0) An) (n_levA ((rR Tb zt).2 = 0) Ac) I0 I1 Tz Tc sg It) sz ws t) (va_A ws sz)) 0 0 (va_A ws sz)) hI (fun ad iv gf mz mp ma mx w9 k9 h9 f_0_0 f_0_1 f_0_2 f_0_3 f_0_4 f_0_5 f_0_6 f_0_7 f_0_8 f_0_9 f_0_10 f_0_11 eq_0_0 eq_0_1 eq_0_2 eq_0_3 eq_0_4 eq_0_5 eq_0_6 eq_0_7 eq_0_8 eq_0_9 eq_0_10 eq_0_11 eq_0_12 eq_0_13 hI0 => ?_)
  subst eq_0_0
  subst eq_0_1
  obtain rfl : mz = zt := eq_0_2.symm
  subst eq_0_3
  subst eq_0_4
  subst eq_0_5
  obtain rfl : ma = An := eq_0_6.symm
  subst eq_0_7
  subst eq_0_8
  subst eq_0_9
  obtain rfl : mx = Tz := eq_0_10.symm
  subst eq_0_11
  subst eq_0_12
  subst eq_0_13
  refine wd_Bi (cs := [[(xo_8_rrriirrriiiiiiirrirrrrri mo (ad 0) (ad 1) (ad 2) (iv 0) (iv 1) (ad 3) (ad 4) (ad 5) (nI mz) (iv 2) (nI mp) (iv 3) (iv 4) (iv 5) (iv 6) (ad 6) (ad 7) (nI ma) (ad 8) (ad 9) (ad 10) (ad 11) (ad 12) (nI mx))], [(xI (ad 3) cI 38 (gf 3))], [(xI (ad 5) cI 120 (gf 5))], [(xI (ad 6) cI 38 (gf 6))], [(xI (ad 7) cI 912 (gf 7))]]) (rs := [[(xI (ad 0) cI 8 (gf 0))], [(xI (ad 1) cI 8 (gf 1))], [(xI (ad 2) cI 320 (gf 2))], [(xI (ad 4) cI 40 (gf 4))], [(xI (ad 8) cI 38 (gf 8))], [(xI (ad 9) cI 16 (gf 9))], [(xI (ad 10) cZ 2 (gf 10))], [(xI (ad 11) cI 76 (gf 11))], [(xI (ad 12) cI 16 (gf 12))]]) (r_X8_level l dC dI cI cZ cL cJ sz mo (ad 0) (ad 1) (ad 2) (ad 3) (ad 4) (ad 5) (ad 6) (ad 7) (ad 8) (ad 9) (ad 10) (ad 11) (ad 12) (iv 0) (iv 1) (iv 2) (iv 3) (iv 4) (iv 5) (iv 6) mz mp ma mx (gf 3) w9 k9 h9 (gf 5) (gf 6) (gf 7) (by first | with_reducible assumption | assumption) (by first | with_reducible assumption | assumption) (by first | with_reducible assumption | assumption) (by first | with_reducible assumption | assumption) (by first | with_reducible assumption | assumption) (by first | with_reducible assumption | assumption) (by first | with_reducible assumption | assumption)) rfl (pmB [0, 4, 6, 7, 8, 1, 2, 3, 5, 9, 10, 11, 12, 13] 14 rfl (by decide +kernel) rfl) ?_
  rintro t r e2 ⟨fsn, frn, mkn, mvn, mbn, mpn, mwn, mln, mtn, man, w9n, k9n, h9n, hP1, hD1, g_0, g_1, g_2, g_3, g_4, g_5, g_6, g_7, g_8, g_9, g_10⟩
  exact ⟨e2, [[(xo_8_rrriirrriiiiiiirrirrrrri mo (ad 0) (ad 1) (ad 2) (iv 0) mtn (ad 3) (ad 4) (ad 5) 0 mln (nI mpn) mkn mvn mbn mwn (ad 6) (ad 7) (nI man) (ad 8) (ad 9) (ad 10) (ad 11) (ad 12) (nI mx))], [(xI (ad 3) cI 38 fsn)], [(xI (ad 5) cI 120 (gf 5))], [(xI (ad 6) cI 38 frn)], [(xI (ad 7) cI 912 (gf 7))]], [[(xo_8_rrriirrriiiiiiirrirrrrri mo (ad 0) (ad 1) (ad 2) (iv 0) mtn (ad 3) (ad 4) (ad 5) 0 mln (nI mpn) mkn mvn mbn mwn (ad 6) (ad 7) (nI man) (ad 8) (ad 9) (ad 10) (ad 11) (ad 12) (nI mx))], [(xI (ad 0) cI 8 (gf 0))], [(xI (ad 1) cI 8 (gf 1))], [(xI (ad 2) cI 320 (gf 2))], [(xI (ad 3) cI 38 fsn)], [(xI (ad 4) cI 40 (gf 4))], [(xI (ad 5) cI 120 (gf 5))], [(xI (ad 6) cI 38 frn)], [(xI (ad 7) cI 912 (gf 7))], [(xI (ad 8) cI 38 (gf 8))], [(xI (ad 9) cI 16 (gf 9))], [(xI (ad 10) cZ 2 (gf 10))], [(xI (ad 11) cI 76 (gf 11))], [(xI (ad 12) cI 16 (gf 12))]], hP1, hD1, ⟨_, _, _, _, _, _, _, _, _, _, _, _, _, _, rfl, ⟨ad, (fun k => [(iv 0), mtn, mln, mkn, mvn, mbn, mwn].getD k 0), (fun k => [(gf 0), (gf 1), (gf 2), fsn, (gf 4), (gf 5), frn, (gf 7), (gf 8), (gf 9), (gf 10), (gf 11), (gf 12)].getD k (fun _ => 0)), 0, mpn, man, mx, w9n, k9n, h9n, rfl, rfl, rfl, rfl, rfl, rfl, rfl, rfl, rfl, rfl, rfl, rfl, rfl, rfl, (by first | with_reducible assumption | omega | assumption | exact (fun h_ => ⟨(congrFun g_1 0).trans (f_0_3 h_).1, (f_0_3 h_).2⟩) | (intro h_; simp_all)), (by first | with_reducible assumption | omega | assumption | exact (fun h_ => ⟨(congrFun g_1 0).trans (f_0_3 h_).1, (f_0_3 h_).2⟩) | (intro h_; simp_all)), (by first | with_reducible assumption | omega | assumption | exact (fun h_ => ⟨(congrFun g_1 0).trans (f_0_3 h_).1, (f_0_3 h_).2⟩) | (intro h_; simp_all)), (by first | with_reducible assumption | omega | assumption | exact (fun h_ => ⟨(congrFun g_1 0).trans (f_0_3 h_).1, (f_0_3 h_).2⟩) | (intro h_; simp_all)), (by first | with_reducible assumption | omega | assumption | exact (fun h_ => ⟨(congrFun g_1 0).trans (f_0_3 h_).1, (f_0_3 h_).2⟩) | (intro h_; simp_all)), (by first | with_reducible assumption | omega | assumption | exact (fun h_ => ⟨(congrFun g_1 0).trans (f_0_3 h_).1, (f_0_3 h_).2⟩) | (intro h_; simp_all)), f_0_6, (by first | with_reducible assumption | omega | assumption | exact (fun h_ => ⟨(congrFun g_1 0).trans (f_0_3 h_).1, (f_0_3 h_).2⟩) | (intro h_; simp_all)), (by first | with_reducible assumption | omega | assumption | exact (fun h_ => ⟨(congrFun g_1 0).trans (f_0_3 h_).1, (f_0_3 h_).2⟩) | (intro h_; simp_all)), f_0_9, f_0_10, f_0_11, rfl, rfl, rfl, rfl, g_5.symm, g_8.symm, g_9.symm, g_10.symm, rfl, rfl, rfl, rfl, rfl, rfl⟩⟩, (pmB [0, 4, 6, 7, 8, 1, 2, 3, 5, 9, 10, 11, 12, 13] 14 rfl (by decide +kernel) rfl)⟩
set_option maxHeartbeats 4000000 in
set_option maxRecDepth 100000 in
theorem w_X8_fault (l : Launch) (dC : Nat → ClassId) (dI : Nat → Nat → Nat) (cI cZ cL cJ : ClassId) (sz : Nat) (mo : Nat) (Rl : Nat → Int32) (Rn : Nat → Int32) (zt : Nat) (Tb : Nat → Int32) (lf : Int32) (Lv : Nat → Int32) (An : Nat) (Ac : Nat → Nat → Int32) (I0 : Nat → Int32) (I1 : Nat → Int32) (Tz : Nat) (Tc : Nat → Int32) (sg : Int32) (It : Nat → Nat → Int32) (ws : va_W)  (hI : ISM cI cZ cL cJ mo Rl Rn zt Tb lf Lv An Ac I0 I1 Tz Tc sg It ws) : Met l yX8_fault wsX8_fault ({ frames := 0, cells := 0, slots := 0, locals := 0 }) (va_Pc [.ref mo] (wpx dC dI [(cI, .int), (cZ, .boolean), (cL, .object RX3), (cJ, .array .int)] sz ws)) (va_Qi (fun r (_ : Unit) => r = lf) (fun _ t => wox dC dI (ISM cI cZ cL cJ mo Rl Rn zt Tb lf Lv An Ac I0 I1 Tz Tc sg It) sz ws t) (va_A ws sz)) 0 0 (va_A ws sz) := by
  refine ISM_el (P := fun (ws : va_W) => Met l yX8_fault wsX8_fault ({ frames := 0, cells := 0, slots := 0, locals := 0 }) (va_Pc [.ref mo] (wpx dC dI [(cI, .int), (cZ, .boolean), (cL, .object RX3), (cJ, .array .int)] sz ws)) (va_Qi (fun r (_ : Unit) => r = lf) (fun _ t => wox dC dI (ISM cI cZ cL cJ mo Rl Rn zt Tb lf Lv An Ac I0 I1 Tz Tc sg It) sz ws t) (va_A ws sz)) 0 0 (va_A ws sz)) hI (fun ad iv gf mz mp ma mx w9 k9 h9 f_0_0 f_0_1 f_0_2 f_0_3 f_0_4 f_0_5 f_0_6 f_0_7 f_0_8 f_0_9 f_0_10 f_0_11 eq_0_0 eq_0_1 eq_0_2 eq_0_3 eq_0_4 eq_0_5 eq_0_6 eq_0_7 eq_0_8 eq_0_9 eq_0_10 eq_0_11 eq_0_12 eq_0_13 hI0 => ?_)
  subst eq_0_0
  subst eq_0_1
  obtain rfl : mz = zt := eq_0_2.symm
  subst eq_0_3
  subst eq_0_4
  subst eq_0_5
  obtain rfl : ma = An := eq_0_6.symm
  subst eq_0_7
  subst eq_0_8
  subst eq_0_9
  obtain rfl : mx = Tz := eq_0_10.symm
  subst eq_0_11
  subst eq_0_12
  subst eq_0_13
  exact wd_PPi (post := fun r => r = (iv 2)) (cs := [[(xo_8_rrriirrriiiiiiirrirrrrri mo (ad 0) (ad 1) (ad 2) (iv 0) (iv 1) (ad 3) (ad 4) (ad 5) (nI mz) (iv 2) (nI mp) (iv 3) (iv 4) (iv 5) (iv 6) (ad 6) (ad 7) (nI ma) (ad 8) (ad 9) (ad 10) (ad 11) (ad 12) (nI mx))]]) (rs := [[(xI (ad 0) cI 8 (gf 0))], [(xI (ad 1) cI 8 (gf 1))], [(xI (ad 2) cI 320 (gf 2))], [(xI (ad 3) cI 38 (gf 3))], [(xI (ad 4) cI 40 (gf 4))], [(xI (ad 5) cI 120 (gf 5))], [(xI (ad 6) cI 38 (gf 6))], [(xI (ad 7) cI 912 (gf 7))], [(xI (ad 8) cI 38 (gf 8))], [(xI (ad 9) cI 16 (gf 9))], [(xI (ad 10) cZ 2 (gf 10))], [(xI (ad 11) cI 76 (gf 11))], [(xI (ad 12) cI 16 (gf 12))]]) (r_X8_fault l dC dI cI cZ cL cJ mo (ad 0) (ad 1) (ad 2) (ad 3) (ad 4) (ad 5) (ad 6) (ad 7) (ad 8) (ad 9) (ad 10) (ad 11) (ad 12) (iv 0) (iv 1) (iv 2) (iv 3) (iv 4) (iv 5) (iv 6) mz mp ma mx ) rfl (pmB [0, 1, 2, 3, 4, 5, 6, 7, 8, 9, 10, 11, 12, 13] 14 rfl (by decide +kernel) rfl) hI0 (fun r h => h)
set_option maxHeartbeats 4000000 in
set_option maxRecDepth 100000 in
theorem w_X8_undo (l : Launch) (dC : Nat → ClassId) (dI : Nat → Nat → Nat) (cI cZ cL cJ : ClassId) (sz : Nat) (mo : Nat) (Rl : Nat → Int32) (Rn : Nat → Int32) (zt : Nat) (Tb : Nat → Int32) (lf : Int32) (Lv : Nat → Int32) (An : Nat) (Ac : Nat → Nat → Int32) (I0 : Nat → Int32) (I1 : Nat → Int32) (Tz : Nat) (Tc : Nat → Int32) (sg : Int32) (It : Nat → Nat → Int32) (ws : va_W)  (hI : ISM cI cZ cL cJ mo Rl Rn zt Tb lf Lv An Ac I0 I1 Tz Tc sg It ws) : Met l yX8_undo wsX8_undo ({ frames := 0, cells := 0, slots := 0, locals := 0 }) (va_Pc [.ref mo] (wpx dC dI [(cI, .int), (cZ, .boolean), (cL, .object RX3), (cJ, .array .int)] sz ws)) (va_Qi (fun r (_ : Unit) => r = a_undo An) (fun _ t => wox dC dI (ISM cI cZ cL cJ mo Rl Rn zt Tb lf (n_undo Lv An Ac) (An - 1) (dpA An Ac) I0 I1 Tz Tc sg It) sz ws t) (va_A ws sz)) 0 0 (va_A ws sz) := by
  refine ISM_el (P := fun (ws : va_W) => Met l yX8_undo wsX8_undo ({ frames := 0, cells := 0, slots := 0, locals := 0 }) (va_Pc [.ref mo] (wpx dC dI [(cI, .int), (cZ, .boolean), (cL, .object RX3), (cJ, .array .int)] sz ws)) (va_Qi (fun r (_ : Unit) => r = a_undo An) (fun _ t => wox dC dI (ISM cI cZ cL cJ mo Rl Rn zt Tb lf (n_undo Lv An Ac) (An - 1) (dpA An Ac) I0 I1 Tz Tc sg It) sz ws t) (va_A ws sz)) 0 0 (va_A ws sz)) hI (fun ad iv gf mz mp ma mx w9 k9 h9 f_0_0 f_0_1 f_0_2 f_0_3 f_0_4 f_0_5 f_0_6 f_0_7 f_0_8 f_0_9 f_0_10 f_0_11 eq_0_0 eq_0_1 eq_0_2 eq_0_3 eq_0_4 eq_0_5 eq_0_6 eq_0_7 eq_0_8 eq_0_9 eq_0_10 eq_0_11 eq_0_12 eq_0_13 hI0 => ?_)
  subst eq_0_0
  subst eq_0_1
  obtain rfl : mz = zt := eq_0_2.symm
  subst eq_0_3
  subst eq_0_4
  subst eq_0_5
  obtain rfl : ma = An := eq_0_6.symm
  subst eq_0_7
  subst eq_0_8
  subst eq_0_9
  obtain rfl : mx = Tz := eq_0_10.symm
  subst eq_0_11
  subst eq_0_12
  subst eq_0_13
  refine wd_Bi (cs := [[(xo_8_rrriirrriiiiiiirrirrrrri mo (ad 0) (ad 1) (ad 2) (iv 0) (iv 1) (ad 3) (ad 4) (ad 5) (nI mz) (iv 2) (nI mp) (iv 3) (iv 4) (iv 5) (iv 6) (ad 6) (ad 7) (nI ma) (ad 8) (ad 9) (ad 10) (ad 11) (ad 12) (nI mx))], [(xI (ad 3) cI 38 (gf 3))], [(xI (ad 7) cI 912 (gf 7))]]) (rs := [[(xI (ad 0) cI 8 (gf 0))], [(xI (ad 1) cI 8 (gf 1))], [(xI (ad 2) cI 320 (gf 2))], [(xI (ad 4) cI 40 (gf 4))], [(xI (ad 5) cI 120 (gf 5))], [(xI (ad 6) cI 38 (gf 6))], [(xI (ad 8) cI 38 (gf 8))], [(xI (ad 9) cI 16 (gf 9))], [(xI (ad 10) cZ 2 (gf 10))], [(xI (ad 11) cI 76 (gf 11))], [(xI (ad 12) cI 16 (gf 12))]]) (r_X8_undo l dC dI cI cZ cL cJ sz mo (ad 0) (ad 1) (ad 2) (ad 3) (ad 4) (ad 5) (ad 6) (ad 7) (ad 8) (ad 9) (ad 10) (ad 11) (ad 12) (iv 0) (iv 1) (iv 2) (iv 3) (iv 4) (iv 5) (iv 6) mz mp ma mx (gf 3) w9 k9 h9 (gf 7) (by first | with_reducible assumption | assumption) (by first | with_reducible assumption | assumption) (by first | with_reducible assumption | assumption) (by first | with_reducible assumption | assumption) (by first | with_reducible assumption | assumption) (by first | with_reducible assumption | assumption)) rfl (pmB [0, 4, 8, 1, 2, 3, 5, 6, 7, 9, 10, 11, 12, 13] 14 rfl (by decide +kernel) rfl) ?_
  rintro t r e2 ⟨fsn, fcn, man, w9n, k9n, h9n, hP1, hD1, g_0, g_1, g_2, g_3, g_4, g_5, g_6, g_7, g_8⟩
  exact ⟨e2, [[(xo_8_rrriirrriiiiiiirrirrrrri mo (ad 0) (ad 1) (ad 2) (iv 0) (iv 1) (ad 3) (ad 4) (ad 5) (nI mz) (iv 2) (nI mp) (iv 3) (iv 4) (iv 5) (iv 6) (ad 6) (ad 7) (nI man) (ad 8) (ad 9) (ad 10) (ad 11) (ad 12) (nI mx))], [(xI (ad 3) cI 38 fsn)], [(xI (ad 7) cI 912 fcn)]], [[(xo_8_rrriirrriiiiiiirrirrrrri mo (ad 0) (ad 1) (ad 2) (iv 0) (iv 1) (ad 3) (ad 4) (ad 5) (nI mz) (iv 2) (nI mp) (iv 3) (iv 4) (iv 5) (iv 6) (ad 6) (ad 7) (nI man) (ad 8) (ad 9) (ad 10) (ad 11) (ad 12) (nI mx))], [(xI (ad 0) cI 8 (gf 0))], [(xI (ad 1) cI 8 (gf 1))], [(xI (ad 2) cI 320 (gf 2))], [(xI (ad 3) cI 38 fsn)], [(xI (ad 4) cI 40 (gf 4))], [(xI (ad 5) cI 120 (gf 5))], [(xI (ad 6) cI 38 (gf 6))], [(xI (ad 7) cI 912 fcn)], [(xI (ad 8) cI 38 (gf 8))], [(xI (ad 9) cI 16 (gf 9))], [(xI (ad 10) cZ 2 (gf 10))], [(xI (ad 11) cI 76 (gf 11))], [(xI (ad 12) cI 16 (gf 12))]], hP1, hD1, ⟨_, _, _, _, _, _, _, _, _, _, _, _, _, _, rfl, ⟨ad, iv, (fun k => [(gf 0), (gf 1), (gf 2), fsn, (gf 4), (gf 5), (gf 6), fcn, (gf 8), (gf 9), (gf 10), (gf 11), (gf 12)].getD k (fun _ => 0)), mz, mp, man, mx, w9n, k9n, h9n, rfl, rfl, rfl, rfl, rfl, rfl, rfl, rfl, rfl, rfl, rfl, rfl, rfl, rfl, (by first | with_reducible assumption | omega | assumption | exact (fun h_ => ⟨(congrFun g_1 0).trans (f_0_3 h_).1, (f_0_3 h_).2⟩) | (intro h_; simp_all)), (by first | with_reducible assumption | omega | assumption | exact (fun h_ => ⟨(congrFun g_1 0).trans (f_0_3 h_).1, (f_0_3 h_).2⟩) | (intro h_; simp_all)), (by first | with_reducible assumption | omega | assumption | exact (fun h_ => ⟨(congrFun g_1 0).trans (f_0_3 h_).1, (f_0_3 h_).2⟩) | (intro h_; simp_all)), (by first | with_reducible assumption | omega | assumption | exact (fun h_ => ⟨(congrFun g_1 0).trans (f_0_3 h_).1, (f_0_3 h_).2⟩) | (intro h_; simp_all)), (by first | with_reducible assumption | omega | assumption | exact (fun h_ => ⟨(congrFun g_1 0).trans (f_0_3 h_).1, (f_0_3 h_).2⟩) | (intro h_; simp_all)), (by first | with_reducible assumption | omega | assumption | exact (fun h_ => ⟨(congrFun g_1 0).trans (f_0_3 h_).1, (f_0_3 h_).2⟩) | (intro h_; simp_all)), f_0_6, f_0_7, f_0_8, f_0_9, f_0_10, f_0_11, rfl, rfl, rfl, rfl, rfl, (by first | with_reducible rfl | (symm; with_reducible assumption) | (symm; subst_vars; with_reducible exact acX_rst) | (symm; subst_vars; with_reducible exact acX_lev) | rfl | (symm; assumption) | (symm; subst_vars; exact acX_rst) | (symm; subst_vars; exact acX_lev) | (subst_vars; rfl)), (by first | with_reducible rfl | (symm; with_reducible assumption) | (symm; subst_vars; with_reducible exact acX_rst) | (symm; subst_vars; with_reducible exact acX_lev) | rfl | (symm; assumption) | (symm; subst_vars; exact acX_rst) | (symm; subst_vars; exact acX_lev) | (subst_vars; rfl)), (by first | with_reducible rfl | (symm; with_reducible assumption) | (symm; subst_vars; with_reducible exact acX_rst) | (symm; subst_vars; with_reducible exact acX_lev) | rfl | (symm; assumption) | (symm; subst_vars; exact acX_rst) | (symm; subst_vars; exact acX_lev) | (subst_vars; rfl)), rfl, rfl, rfl, rfl, rfl, rfl⟩⟩, (pmB [0, 4, 8, 1, 2, 3, 5, 6, 7, 9, 10, 11, 12, 13] 14 rfl (by decide +kernel) rfl)⟩
set_option maxHeartbeats 4000000 in
set_option maxRecDepth 100000 in
theorem w_X8_hours (l : Launch) (dC : Nat → ClassId) (dI : Nat → Nat → Nat) (cI cZ cL cJ : ClassId) (sz : Nat) (mo : Nat) (Rl : Nat → Int32) (Rn : Nat → Int32) (zt : Nat) (Tb : Nat → Int32) (lf : Int32) (Lv : Nat → Int32) (An : Nat) (Ac : Nat → Nat → Int32) (I0 : Nat → Int32) (I1 : Nat → Int32) (Tz : Nat) (Tc : Nat → Int32) (sg : Int32) (It : Nat → Nat → Int32) (ws : va_W) (a0 : Int32)  (hI : ISM cI cZ cL cJ mo Rl Rn zt Tb lf Lv An Ac I0 I1 Tz Tc sg It ws) : Met l yX8_hours wsX8_hours ({ frames := 4, cells := 0, slots := 0, locals := 95 }) (va_Pc [.ref mo, .int a0] (wpx dC dI [(cI, .int), (cZ, .boolean), (cL, .object RX3), (cJ, .array .int)] sz ws)) (va_Qi (fun r (_ : Unit) => r = a_hrs Lv a0) (fun _ t => wox dC dI (ISM cI cZ cL cJ mo Rl Rn zt Tb lf (s_hrs Lv An Ac a0).1 (s_hrs Lv An Ac a0).2.1 (s_hrs Lv An Ac a0).2.2 I0 I1 Tz Tc sg It) sz ws t) (va_A ws sz)) 0 0 (va_A ws sz) := by
  refine ISM_el (P := fun (ws : va_W) => Met l yX8_hours wsX8_hours ({ frames := 4, cells := 0, slots := 0, locals := 95 }) (va_Pc [.ref mo, .int a0] (wpx dC dI [(cI, .int), (cZ, .boolean), (cL, .object RX3), (cJ, .array .int)] sz ws)) (va_Qi (fun r (_ : Unit) => r = a_hrs Lv a0) (fun _ t => wox dC dI (ISM cI cZ cL cJ mo Rl Rn zt Tb lf (s_hrs Lv An Ac a0).1 (s_hrs Lv An Ac a0).2.1 (s_hrs Lv An Ac a0).2.2 I0 I1 Tz Tc sg It) sz ws t) (va_A ws sz)) 0 0 (va_A ws sz)) hI (fun ad iv gf mz mp ma mx w9 k9 h9 f_0_0 f_0_1 f_0_2 f_0_3 f_0_4 f_0_5 f_0_6 f_0_7 f_0_8 f_0_9 f_0_10 f_0_11 eq_0_0 eq_0_1 eq_0_2 eq_0_3 eq_0_4 eq_0_5 eq_0_6 eq_0_7 eq_0_8 eq_0_9 eq_0_10 eq_0_11 eq_0_12 eq_0_13 hI0 => ?_)
  subst eq_0_0
  subst eq_0_1
  obtain rfl : mz = zt := eq_0_2.symm
  subst eq_0_3
  subst eq_0_4
  subst eq_0_5
  obtain rfl : ma = An := eq_0_6.symm
  subst eq_0_7
  subst eq_0_8
  subst eq_0_9
  obtain rfl : mx = Tz := eq_0_10.symm
  subst eq_0_11
  subst eq_0_12
  subst eq_0_13
  refine wd_Bi (cs := [[(xo_8_rrriirrriiiiiiirrirrrrri mo (ad 0) (ad 1) (ad 2) (iv 0) (iv 1) (ad 3) (ad 4) (ad 5) (nI mz) (iv 2) (nI mp) (iv 3) (iv 4) (iv 5) (iv 6) (ad 6) (ad 7) (nI ma) (ad 8) (ad 9) (ad 10) (ad 11) (ad 12) (nI mx))], [(xI (ad 3) cI 38 (gf 3))], [(xI (ad 7) cI 912 (gf 7))]]) (rs := [[(xI (ad 0) cI 8 (gf 0))], [(xI (ad 1) cI 8 (gf 1))], [(xI (ad 2) cI 320 (gf 2))], [(xI (ad 4) cI 40 (gf 4))], [(xI (ad 5) cI 120 (gf 5))], [(xI (ad 6) cI 38 (gf 6))], [(xI (ad 8) cI 38 (gf 8))], [(xI (ad 9) cI 16 (gf 9))], [(xI (ad 10) cZ 2 (gf 10))], [(xI (ad 11) cI 76 (gf 11))], [(xI (ad 12) cI 16 (gf 12))]]) (r_X8_hours l dC dI cI cZ cL cJ sz mo (ad 0) (ad 1) (ad 2) (ad 3) (ad 4) (ad 5) (ad 6) (ad 7) (ad 8) (ad 9) (ad 10) (ad 11) (ad 12) (iv 0) (iv 1) (iv 2) (iv 3) (iv 4) (iv 5) (iv 6) mz mp ma mx (gf 3) w9 k9 h9 (gf 7) a0 (by first | with_reducible assumption | assumption) (by first | with_reducible assumption | assumption) (by first | with_reducible assumption | assumption) (by first | with_reducible assumption | assumption) (by first | with_reducible assumption | assumption) (by first | with_reducible assumption | assumption)) rfl (pmB [0, 4, 8, 1, 2, 3, 5, 6, 7, 9, 10, 11, 12, 13] 14 rfl (by decide +kernel) rfl) ?_
  rintro t r e2 ⟨fsn, fcn, man, w9n, k9n, h9n, hP1, hD1, g_0, g_1, g_2, g_3, g_4, g_5, g_6, g_7, g_8⟩
  exact ⟨e2, [[(xo_8_rrriirrriiiiiiirrirrrrri mo (ad 0) (ad 1) (ad 2) (iv 0) (iv 1) (ad 3) (ad 4) (ad 5) (nI mz) (iv 2) (nI mp) (iv 3) (iv 4) (iv 5) (iv 6) (ad 6) (ad 7) (nI man) (ad 8) (ad 9) (ad 10) (ad 11) (ad 12) (nI mx))], [(xI (ad 3) cI 38 fsn)], [(xI (ad 7) cI 912 fcn)]], [[(xo_8_rrriirrriiiiiiirrirrrrri mo (ad 0) (ad 1) (ad 2) (iv 0) (iv 1) (ad 3) (ad 4) (ad 5) (nI mz) (iv 2) (nI mp) (iv 3) (iv 4) (iv 5) (iv 6) (ad 6) (ad 7) (nI man) (ad 8) (ad 9) (ad 10) (ad 11) (ad 12) (nI mx))], [(xI (ad 0) cI 8 (gf 0))], [(xI (ad 1) cI 8 (gf 1))], [(xI (ad 2) cI 320 (gf 2))], [(xI (ad 3) cI 38 fsn)], [(xI (ad 4) cI 40 (gf 4))], [(xI (ad 5) cI 120 (gf 5))], [(xI (ad 6) cI 38 (gf 6))], [(xI (ad 7) cI 912 fcn)], [(xI (ad 8) cI 38 (gf 8))], [(xI (ad 9) cI 16 (gf 9))], [(xI (ad 10) cZ 2 (gf 10))], [(xI (ad 11) cI 76 (gf 11))], [(xI (ad 12) cI 16 (gf 12))]], hP1, hD1, ⟨_, _, _, _, _, _, _, _, _, _, _, _, _, _, rfl, ⟨ad, iv, (fun k => [(gf 0), (gf 1), (gf 2), fsn, (gf 4), (gf 5), (gf 6), fcn, (gf 8), (gf 9), (gf 10), (gf 11), (gf 12)].getD k (fun _ => 0)), mz, mp, man, mx, w9n, k9n, h9n, rfl, rfl, rfl, rfl, rfl, rfl, rfl, rfl, rfl, rfl, rfl, rfl, rfl, rfl, (by first | with_reducible assumption | omega | assumption | exact (fun h_ => ⟨(congrFun g_1 0).trans (f_0_3 h_).1, (f_0_3 h_).2⟩) | (intro h_; simp_all)), (by first | with_reducible assumption | omega | assumption | exact (fun h_ => ⟨(congrFun g_1 0).trans (f_0_3 h_).1, (f_0_3 h_).2⟩) | (intro h_; simp_all)), (by first | with_reducible assumption | omega | assumption | exact (fun h_ => ⟨(congrFun g_1 0).trans (f_0_3 h_).1, (f_0_3 h_).2⟩) | (intro h_; simp_all)), (by first | with_reducible assumption | omega | assumption | exact (fun h_ => ⟨(congrFun g_1 0).trans (f_0_3 h_).1, (f_0_3 h_).2⟩) | (intro h_; simp_all)), (by first | with_reducible assumption | omega | assumption | exact (fun h_ => ⟨(congrFun g_1 0).trans (f_0_3 h_).1, (f_0_3 h_).2⟩) | (intro h_; simp_all)), (by first | with_reducible assumption | omega | assumption | exact (fun h_ => ⟨(congrFun g_1 0).trans (f_0_3 h_).1, (f_0_3 h_).2⟩) | (intro h_; simp_all)), f_0_6, f_0_7, f_0_8, f_0_9, f_0_10, f_0_11, rfl, rfl, rfl, rfl, rfl, (by first | with_reducible rfl | (symm; with_reducible assumption) | (symm; subst_vars; with_reducible exact acX_rst) | (symm; subst_vars; with_reducible exact acX_lev) | rfl | (symm; assumption) | (symm; subst_vars; exact acX_rst) | (symm; subst_vars; exact acX_lev) | (subst_vars; rfl)), (by first | with_reducible rfl | (symm; with_reducible assumption) | (symm; subst_vars; with_reducible exact acX_rst) | (symm; subst_vars; with_reducible exact acX_lev) | rfl | (symm; assumption) | (symm; subst_vars; exact acX_rst) | (symm; subst_vars; exact acX_lev) | (subst_vars; rfl)), (by first | with_reducible rfl | (symm; with_reducible assumption) | (symm; subst_vars; with_reducible exact acX_rst) | (symm; subst_vars; with_reducible exact acX_lev) | rfl | (symm; assumption) | (symm; subst_vars; exact acX_rst) | (symm; subst_vars; exact acX_lev) | (subst_vars; rfl)), rfl, rfl, rfl, rfl, rfl, rfl⟩⟩, (pmB [0, 4, 8, 1, 2, 3, 5, 6, 7, 9, 10, 11, 12, 13] 14 rfl (by decide +kernel) rfl)⟩
set_option maxHeartbeats 4000000 in
set_option maxRecDepth 100000 in
theorem w_X8_cap (l : Launch) (dC : Nat → ClassId) (dI : Nat → Nat → Nat) (cI cZ cL cJ : ClassId) (sz : Nat) (mo : Nat) (Rl : Nat → Int32) (Rn : Nat → Int32) (zt : Nat) (Tb : Nat → Int32) (lf : Int32) (Lv : Nat → Int32) (An : Nat) (Ac : Nat → Nat → Int32) (I0 : Nat → Int32) (I1 : Nat → Int32) (Tz : Nat) (Tc : Nat → Int32) (sg : Int32) (It : Nat → Nat → Int32) (ws : va_W)  (hI : ISM cI cZ cL cJ mo Rl Rn zt Tb lf Lv An Ac I0 I1 Tz Tc sg It ws) : Met l yX8_cap wsX8_cap ({ frames := 1, cells := 0, slots := 0, locals := 21 }) (va_Pc [.ref mo] (wpx dC dI [(cI, .int), (cZ, .boolean), (cL, .object RX3), (cJ, .array .int)] sz ws)) (va_Qi (fun r (_ : Unit) => r = a_cap Lv) (fun _ t => wox dC dI (ISM cI cZ cL cJ mo Rl Rn zt Tb lf (n_cap Lv) (kpN (gd_cap Lv) An) (kpA (gd_cap Lv) Lv An Ac) I0 I1 Tz Tc sg It) sz ws t) (va_A ws sz)) 0 0 (va_A ws sz) := by
  refine ISM_el (P := fun (ws : va_W) => Met l yX8_cap wsX8_cap ({ frames := 1, cells := 0, slots := 0, locals := 21 }) (va_Pc [.ref mo] (wpx dC dI [(cI, .int), (cZ, .boolean), (cL, .object RX3), (cJ, .array .int)] sz ws)) (va_Qi (fun r (_ : Unit) => r = a_cap Lv) (fun _ t => wox dC dI (ISM cI cZ cL cJ mo Rl Rn zt Tb lf (n_cap Lv) (kpN (gd_cap Lv) An) (kpA (gd_cap Lv) Lv An Ac) I0 I1 Tz Tc sg It) sz ws t) (va_A ws sz)) 0 0 (va_A ws sz)) hI (fun ad iv gf mz mp ma mx w9 k9 h9 f_0_0 f_0_1 f_0_2 f_0_3 f_0_4 f_0_5 f_0_6 f_0_7 f_0_8 f_0_9 f_0_10 f_0_11 eq_0_0 eq_0_1 eq_0_2 eq_0_3 eq_0_4 eq_0_5 eq_0_6 eq_0_7 eq_0_8 eq_0_9 eq_0_10 eq_0_11 eq_0_12 eq_0_13 hI0 => ?_)
  subst eq_0_0
  subst eq_0_1
  obtain rfl : mz = zt := eq_0_2.symm
  subst eq_0_3
  subst eq_0_4
  subst eq_0_5
  obtain rfl : ma = An := eq_0_6.symm
  subst eq_0_7
  subst eq_0_8
  subst eq_0_9
  obtain rfl : mx = Tz := eq_0_10.symm
  subst eq_0_11
  subst eq_0_12
  subst eq_0_13
  refine wd_Bi (cs := [[(xo_8_rrriirrriiiiiiirrirrrrri mo (ad 0) (ad 1) (ad 2) (iv 0) (iv 1) (ad 3) (ad 4) (ad 5) (nI mz) (iv 2) (nI mp) (iv 3) (iv 4) (iv 5) (iv 6) (ad 6) (ad 7) (nI ma) (ad 8) (ad 9) (ad 10) (ad 11) (ad 12) (nI mx))], [(xI (ad 3) cI 38 (gf 3))], [(xI (ad 7) cI 912 (gf 7))]]) (rs := [[(xI (ad 0) cI 8 (gf 0))], [(xI (ad 1) cI 8 (gf 1))], [(xI (ad 2) cI 320 (gf 2))], [(xI (ad 4) cI 40 (gf 4))], [(xI (ad 5) cI 120 (gf 5))], [(xI (ad 6) cI 38 (gf 6))], [(xI (ad 8) cI 38 (gf 8))], [(xI (ad 9) cI 16 (gf 9))], [(xI (ad 10) cZ 2 (gf 10))], [(xI (ad 11) cI 76 (gf 11))], [(xI (ad 12) cI 16 (gf 12))]]) (r_X8_cap l dC dI cI cZ cL cJ sz mo (ad 0) (ad 1) (ad 2) (ad 3) (ad 4) (ad 5) (ad 6) (ad 7) (ad 8) (ad 9) (ad 10) (ad 11) (ad 12) (iv 0) (iv 1) (iv 2) (iv 3) (iv 4) (iv 5) (iv 6) mz mp ma mx (gf 3) w9 k9 h9 (gf 7) (by first | with_reducible assumption | assumption) (by first | with_reducible assumption | assumption) (by first | with_reducible assumption | assumption) (by first | with_reducible assumption | assumption) (by first | with_reducible assumption | assumption) (by first | with_reducible assumption | assumption)) rfl (pmB [0, 4, 8, 1, 2, 3, 5, 6, 7, 9, 10, 11, 12, 13] 14 rfl (by decide +kernel) rfl) ?_
  rintro t r e2 ⟨fsn, fcn, man, w9n, k9n, h9n, hP1, hD1, g_0, g_1, g_2, g_3, g_4, g_5, g_6, g_7, g_8⟩
  exact ⟨e2, [[(xo_8_rrriirrriiiiiiirrirrrrri mo (ad 0) (ad 1) (ad 2) (iv 0) (iv 1) (ad 3) (ad 4) (ad 5) (nI mz) (iv 2) (nI mp) (iv 3) (iv 4) (iv 5) (iv 6) (ad 6) (ad 7) (nI man) (ad 8) (ad 9) (ad 10) (ad 11) (ad 12) (nI mx))], [(xI (ad 3) cI 38 fsn)], [(xI (ad 7) cI 912 fcn)]], [[(xo_8_rrriirrriiiiiiirrirrrrri mo (ad 0) (ad 1) (ad 2) (iv 0) (iv 1) (ad 3) (ad 4) (ad 5) (nI mz) (iv 2) (nI mp) (iv 3) (iv 4) (iv 5) (iv 6) (ad 6) (ad 7) (nI man) (ad 8) (ad 9) (ad 10) (ad 11) (ad 12) (nI mx))], [(xI (ad 0) cI 8 (gf 0))], [(xI (ad 1) cI 8 (gf 1))], [(xI (ad 2) cI 320 (gf 2))], [(xI (ad 3) cI 38 fsn)], [(xI (ad 4) cI 40 (gf 4))], [(xI (ad 5) cI 120 (gf 5))], [(xI (ad 6) cI 38 (gf 6))], [(xI (ad 7) cI 912 fcn)], [(xI (ad 8) cI 38 (gf 8))], [(xI (ad 9) cI 16 (gf 9))], [(xI (ad 10) cZ 2 (gf 10))], [(xI (ad 11) cI 76 (gf 11))], [(xI (ad 12) cI 16 (gf 12))]], hP1, hD1, ⟨_, _, _, _, _, _, _, _, _, _, _, _, _, _, rfl, ⟨ad, iv, (fun k => [(gf 0), (gf 1), (gf 2), fsn, (gf 4), (gf 5), (gf 6), fcn, (gf 8), (gf 9), (gf 10), (gf 11), (gf 12)].getD k (fun _ => 0)), mz, mp, man, mx, w9n, k9n, h9n, rfl, rfl, rfl, rfl, rfl, rfl, rfl, rfl, rfl, rfl, rfl, rfl, rfl, rfl, (by first | with_reducible assumption | omega | assumption | exact (fun h_ => ⟨(congrFun g_1 0).trans (f_0_3 h_).1, (f_0_3 h_).2⟩) | (intro h_; simp_all)), (by first | with_reducible assumption | omega | assumption | exact (fun h_ => ⟨(congrFun g_1 0).trans (f_0_3 h_).1, (f_0_3 h_).2⟩) | (intro h_; simp_all)), (by first | with_reducible assumption | omega | assumption | exact (fun h_ => ⟨(congrFun g_1 0).trans (f_0_3 h_).1, (f_0_3 h_).2⟩) | (intro h_; simp_all)), (by first | with_reducible assumption | omega | assumption | exact (fun h_ => ⟨(congrFun g_1 0).trans (f_0_3 h_).1, (f_0_3 h_).2⟩) | (intro h_; simp_all)), (by first | with_reducible assumption | omega | assumption | exact (fun h_ => ⟨(congrFun g_1 0).trans (f_0_3 h_).1, (f_0_3 h_).2⟩) | (intro h_; simp_all)), (by first | with_reducible assumption | omega | assumption | exact (fun h_ => ⟨(congrFun g_1 0).trans (f_0_3 h_).1, (f_0_3 h_).2⟩) | (intro h_; simp_all)), f_0_6, f_0_7, f_0_8, f_0_9, f_0_10, f_0_11, rfl, rfl, rfl, rfl, rfl, (by first | with_reducible rfl | (symm; with_reducible assumption) | (symm; subst_vars; with_reducible exact acX_rst) | (symm; subst_vars; with_reducible exact acX_lev) | rfl | (symm; assumption) | (symm; subst_vars; exact acX_rst) | (symm; subst_vars; exact acX_lev) | (subst_vars; rfl)), (by first | with_reducible rfl | (symm; with_reducible assumption) | (symm; subst_vars; with_reducible exact acX_rst) | (symm; subst_vars; with_reducible exact acX_lev) | rfl | (symm; assumption) | (symm; subst_vars; exact acX_rst) | (symm; subst_vars; exact acX_lev) | (subst_vars; rfl)), (by first | with_reducible rfl | (symm; with_reducible assumption) | (symm; subst_vars; with_reducible exact acX_rst) | (symm; subst_vars; with_reducible exact acX_lev) | rfl | (symm; assumption) | (symm; subst_vars; exact acX_rst) | (symm; subst_vars; exact acX_lev) | (subst_vars; rfl)), rfl, rfl, rfl, rfl, rfl, rfl⟩⟩, (pmB [0, 4, 8, 1, 2, 3, 5, 6, 7, 9, 10, 11, 12, 13] 14 rfl (by decide +kernel) rfl)⟩
set_option maxHeartbeats 4000000 in
set_option maxRecDepth 100000 in
theorem w_X8_wind (l : Launch) (dC : Nat → ClassId) (dI : Nat → Nat → Nat) (cI cZ cL cJ : ClassId) (sz : Nat) (mo : Nat) (Rl : Nat → Int32) (Rn : Nat → Int32) (zt : Nat) (Tb : Nat → Int32) (lf : Int32) (Lv : Nat → Int32) (An : Nat) (Ac : Nat → Nat → Int32) (I0 : Nat → Int32) (I1 : Nat → Int32) (Tz : Nat) (Tc : Nat → Int32) (sg : Int32) (It : Nat → Nat → Int32) (ws : va_W) (a0 a1 : Int32)  (hI : ISM cI cZ cL cJ mo Rl Rn zt Tb lf Lv An Ac I0 I1 Tz Tc sg It ws) : Met l yX8_wind wsX8_wind ({ frames := 1, cells := 0, slots := 0, locals := 25 }) (va_Pc [.ref mo, .int a0, .int a1] (wpx dC dI [(cI, .int), (cZ, .boolean), (cL, .object RX3), (cJ, .array .int)] sz ws)) (va_Qi (fun r (_ : Unit) => r = a_wind Lv a0 a1) (fun _ t => wox dC dI (ISM cI cZ cL cJ mo Rl Rn zt Tb lf (n_wind Lv a0 a1) (kpN (gd_wind Lv a0 a1) An) (kpA (gd_wind Lv a0 a1) Lv An Ac) I0 I1 Tz Tc sg It) sz ws t) (va_A ws sz)) 0 0 (va_A ws sz) := by
  refine ISM_el (P := fun (ws : va_W) => Met l yX8_wind wsX8_wind ({ frames := 1, cells := 0, slots := 0, locals := 25 }) (va_Pc [.ref mo, .int a0, .int a1] (wpx dC dI [(cI, .int), (cZ, .boolean), (cL, .object RX3), (cJ, .array .int)] sz ws)) (va_Qi (fun r (_ : Unit) => r = a_wind Lv a0 a1) (fun _ t => wox dC dI (ISM cI cZ cL cJ mo Rl Rn zt Tb lf (n_wind Lv a0 a1) (kpN (gd_wind Lv a0 a1) An) (kpA (gd_wind Lv a0 a1) Lv An Ac) I0 I1 Tz Tc sg It) sz ws t) (va_A ws sz)) 0 0 (va_A ws sz)) hI (fun ad iv gf mz mp ma mx w9 k9 h9 f_0_0 f_0_1 f_0_2 f_0_3 f_0_4 f_0_5 f_0_6 f_0_7 f_0_8 f_0_9 f_0_10 f_0_11 eq_0_0 eq_0_1 eq_0_2 eq_0_3 eq_0_4 eq_0_5 eq_0_6 eq_0_7 eq_0_8 eq_0_9 eq_0_10 eq_0_11 eq_0_12 eq_0_13 hI0 => ?_)
  subst eq_0_0
  subst eq_0_1
  obtain rfl : mz = zt := eq_0_2.symm
  subst eq_0_3
  subst eq_0_4
  subst eq_0_5
  obtain rfl : ma = An := eq_0_6.symm
  subst eq_0_7
  subst eq_0_8
  subst eq_0_9
  obtain rfl : mx = Tz := eq_0_10.symm
  subst eq_0_11
  subst eq_0_12
  subst eq_0_13
  refine wd_Bi (cs := [[(xo_8_rrriirrriiiiiiirrirrrrri mo (ad 0) (ad 1) (ad 2) (iv 0) (iv 1) (ad 3) (ad 4) (ad 5) (nI mz) (iv 2) (nI mp) (iv 3) (iv 4) (iv 5) (iv 6) (ad 6) (ad 7) (nI ma) (ad 8) (ad 9) (ad 10) (ad 11) (ad 12) (nI mx))], [(xI (ad 3) cI 38 (gf 3))], [(xI (ad 7) cI 912 (gf 7))]]) (rs := [[(xI (ad 0) cI 8 (gf 0))], [(xI (ad 1) cI 8 (gf 1))], [(xI (ad 2) cI 320 (gf 2))], [(xI (ad 4) cI 40 (gf 4))], [(xI (ad 5) cI 120 (gf 5))], [(xI (ad 6) cI 38 (gf 6))], [(xI (ad 8) cI 38 (gf 8))], [(xI (ad 9) cI 16 (gf 9))], [(xI (ad 10) cZ 2 (gf 10))], [(xI (ad 11) cI 76 (gf 11))], [(xI (ad 12) cI 16 (gf 12))]]) (r_X8_wind l dC dI cI cZ cL cJ sz mo (ad 0) (ad 1) (ad 2) (ad 3) (ad 4) (ad 5) (ad 6) (ad 7) (ad 8) (ad 9) (ad 10) (ad 11) (ad 12) (iv 0) (iv 1) (iv 2) (iv 3) (iv 4) (iv 5) (iv 6) mz mp ma mx (gf 3) w9 k9 h9 (gf 7) a0 a1 (by first | with_reducible assumption | assumption) (by first | with_reducible assumption | assumption) (by first | with_reducible assumption | assumption) (by first | with_reducible assumption | assumption) (by first | with_reducible assumption | assumption) (by first | with_reducible assumption | assumption)) rfl (pmB [0, 4, 8, 1, 2, 3, 5, 6, 7, 9, 10, 11, 12, 13] 14 rfl (by decide +kernel) rfl) ?_
  rintro t r e2 ⟨fsn, fcn, man, w9n, k9n, h9n, hP1, hD1, g_0, g_1, g_2, g_3, g_4, g_5, g_6, g_7, g_8⟩
  exact ⟨e2, [[(xo_8_rrriirrriiiiiiirrirrrrri mo (ad 0) (ad 1) (ad 2) (iv 0) (iv 1) (ad 3) (ad 4) (ad 5) (nI mz) (iv 2) (nI mp) (iv 3) (iv 4) (iv 5) (iv 6) (ad 6) (ad 7) (nI man) (ad 8) (ad 9) (ad 10) (ad 11) (ad 12) (nI mx))], [(xI (ad 3) cI 38 fsn)], [(xI (ad 7) cI 912 fcn)]], [[(xo_8_rrriirrriiiiiiirrirrrrri mo (ad 0) (ad 1) (ad 2) (iv 0) (iv 1) (ad 3) (ad 4) (ad 5) (nI mz) (iv 2) (nI mp) (iv 3) (iv 4) (iv 5) (iv 6) (ad 6) (ad 7) (nI man) (ad 8) (ad 9) (ad 10) (ad 11) (ad 12) (nI mx))], [(xI (ad 0) cI 8 (gf 0))], [(xI (ad 1) cI 8 (gf 1))], [(xI (ad 2) cI 320 (gf 2))], [(xI (ad 3) cI 38 fsn)], [(xI (ad 4) cI 40 (gf 4))], [(xI (ad 5) cI 120 (gf 5))], [(xI (ad 6) cI 38 (gf 6))], [(xI (ad 7) cI 912 fcn)], [(xI (ad 8) cI 38 (gf 8))], [(xI (ad 9) cI 16 (gf 9))], [(xI (ad 10) cZ 2 (gf 10))], [(xI (ad 11) cI 76 (gf 11))], [(xI (ad 12) cI 16 (gf 12))]], hP1, hD1, ⟨_, _, _, _, _, _, _, _, _, _, _, _, _, _, rfl, ⟨ad, iv, (fun k => [(gf 0), (gf 1), (gf 2), fsn, (gf 4), (gf 5), (gf 6), fcn, (gf 8), (gf 9), (gf 10), (gf 11), (gf 12)].getD k (fun _ => 0)), mz, mp, man, mx, w9n, k9n, h9n, rfl, rfl, rfl, rfl, rfl, rfl, rfl, rfl, rfl, rfl, rfl, rfl, rfl, rfl, (by first | with_reducible assumption | omega | assumption | exact (fun h_ => ⟨(congrFun g_1 0).trans (f_0_3 h_).1, (f_0_3 h_).2⟩) | (intro h_; simp_all)), (by first | with_reducible assumption | omega | assumption | exact (fun h_ => ⟨(congrFun g_1 0).trans (f_0_3 h_).1, (f_0_3 h_).2⟩) | (intro h_; simp_all)), (by first | with_reducible assumption | omega | assumption | exact (fun h_ => ⟨(congrFun g_1 0).trans (f_0_3 h_).1, (f_0_3 h_).2⟩) | (intro h_; simp_all)), (by first | with_reducible assumption | omega | assumption | exact (fun h_ => ⟨(congrFun g_1 0).trans (f_0_3 h_).1, (f_0_3 h_).2⟩) | (intro h_; simp_all)), (by first | with_reducible assumption | omega | assumption | exact (fun h_ => ⟨(congrFun g_1 0).trans (f_0_3 h_).1, (f_0_3 h_).2⟩) | (intro h_; simp_all)), (by first | with_reducible assumption | omega | assumption | exact (fun h_ => ⟨(congrFun g_1 0).trans (f_0_3 h_).1, (f_0_3 h_).2⟩) | (intro h_; simp_all)), f_0_6, f_0_7, f_0_8, f_0_9, f_0_10, f_0_11, rfl, rfl, rfl, rfl, rfl, (by first | with_reducible rfl | (symm; with_reducible assumption) | (symm; subst_vars; with_reducible exact acX_rst) | (symm; subst_vars; with_reducible exact acX_lev) | rfl | (symm; assumption) | (symm; subst_vars; exact acX_rst) | (symm; subst_vars; exact acX_lev) | (subst_vars; rfl)), (by first | with_reducible rfl | (symm; with_reducible assumption) | (symm; subst_vars; with_reducible exact acX_rst) | (symm; subst_vars; with_reducible exact acX_lev) | rfl | (symm; assumption) | (symm; subst_vars; exact acX_rst) | (symm; subst_vars; exact acX_lev) | (subst_vars; rfl)), (by first | with_reducible rfl | (symm; with_reducible assumption) | (symm; subst_vars; with_reducible exact acX_rst) | (symm; subst_vars; with_reducible exact acX_lev) | rfl | (symm; assumption) | (symm; subst_vars; exact acX_rst) | (symm; subst_vars; exact acX_lev) | (subst_vars; rfl)), rfl, rfl, rfl, rfl, rfl, rfl⟩⟩, (pmB [0, 4, 8, 1, 2, 3, 5, 6, 7, 9, 10, 11, 12, 13] 14 rfl (by decide +kernel) rfl)⟩
set_option maxHeartbeats 4000000 in
set_option maxRecDepth 100000 in
theorem w_X8_loose (l : Launch) (dC : Nat → ClassId) (dI : Nat → Nat → Nat) (cI cZ cL cJ : ClassId) (sz : Nat) (mo : Nat) (Rl : Nat → Int32) (Rn : Nat → Int32) (zt : Nat) (Tb : Nat → Int32) (lf : Int32) (Lv : Nat → Int32) (An : Nat) (Ac : Nat → Nat → Int32) (I0 : Nat → Int32) (I1 : Nat → Int32) (Tz : Nat) (Tc : Nat → Int32) (sg : Int32) (It : Nat → Nat → Int32) (ws : va_W) (a0 a1 a2 : Int32)  (hI : ISM cI cZ cL cJ mo Rl Rn zt Tb lf Lv An Ac I0 I1 Tz Tc sg It ws) : Met l yX8_loose wsX8_loose ({ frames := 2, cells := 0, slots := 0, locals := 46 }) (va_Pc [.ref mo, .int a0, .int a1, .int a2] (wpx dC dI [(cI, .int), (cZ, .boolean), (cL, .object RX3), (cJ, .array .int)] sz ws)) (va_Qi (fun r (_ : Unit) => r = a_loose Lv a0 a1 a2) (fun _ t => wox dC dI (ISM cI cZ cL cJ mo Rl Rn zt Tb lf (n_loose Lv a0 a1 a2) (kpN (gd_loose Lv a0 a1 a2) An) (kpA (gd_loose Lv a0 a1 a2) Lv An Ac) I0 I1 Tz Tc sg It) sz ws t) (va_A ws sz)) 0 0 (va_A ws sz) := by
  refine ISM_el (P := fun (ws : va_W) => Met l yX8_loose wsX8_loose ({ frames := 2, cells := 0, slots := 0, locals := 46 }) (va_Pc [.ref mo, .int a0, .int a1, .int a2] (wpx dC dI [(cI, .int), (cZ, .boolean), (cL, .object RX3), (cJ, .array .int)] sz ws)) (va_Qi (fun r (_ : Unit) => r = a_loose Lv a0 a1 a2) (fun _ t => wox dC dI (ISM cI cZ cL cJ mo Rl Rn zt Tb lf (n_loose Lv a0 a1 a2) (kpN (gd_loose Lv a0 a1 a2) An) (kpA (gd_loose Lv a0 a1 a2) Lv An Ac) I0 I1 Tz Tc sg It) sz ws t) (va_A ws sz)) 0 0 (va_A ws sz)) hI (fun ad iv gf mz mp ma mx w9 k9 h9 f_0_0 f_0_1 f_0_2 f_0_3 f_0_4 f_0_5 f_0_6 f_0_7 f_0_8 f_0_9 f_0_10 f_0_11 eq_0_0 eq_0_1 eq_0_2 eq_0_3 eq_0_4 eq_0_5 eq_0_6 eq_0_7 eq_0_8 eq_0_9 eq_0_10 eq_0_11 eq_0_12 eq_0_13 hI0 => ?_)
  subst eq_0_0
  subst eq_0_1
  obtain rfl : mz = zt := eq_0_2.symm
  subst eq_0_3
  subst eq_0_4
  subst eq_0_5
  obtain rfl : ma = An := eq_0_6.symm
  subst eq_0_7
  subst eq_0_8
  subst eq_0_9
  obtain rfl : mx = Tz := eq_0_10.symm
  subst eq_0_11
  subst eq_0_12
  subst eq_0_13
  refine wd_Bi (cs := [[(xo_8_rrriirrriiiiiiirrirrrrri mo (ad 0) (ad 1) (ad 2) (iv 0) (iv 1) (ad 3) (ad 4) (ad 5) (nI mz) (iv 2) (nI mp) (iv 3) (iv 4) (iv 5) (iv 6) (ad 6) (ad 7) (nI ma) (ad 8) (ad 9) (ad 10) (ad 11) (ad 12) (nI mx))], [(xI (ad 3) cI 38 (gf 3))], [(xI (ad 7) cI 912 (gf 7))]]) (rs := [[(xI (ad 0) cI 8 (gf 0))], [(xI (ad 1) cI 8 (gf 1))], [(xI (ad 2) cI 320 (gf 2))], [(xI (ad 4) cI 40 (gf 4))], [(xI (ad 5) cI 120 (gf 5))], [(xI (ad 6) cI 38 (gf 6))], [(xI (ad 8) cI 38 (gf 8))], [(xI (ad 9) cI 16 (gf 9))], [(xI (ad 10) cZ 2 (gf 10))], [(xI (ad 11) cI 76 (gf 11))], [(xI (ad 12) cI 16 (gf 12))]]) (r_X8_loose l dC dI cI cZ cL cJ sz mo (ad 0) (ad 1) (ad 2) (ad 3) (ad 4) (ad 5) (ad 6) (ad 7) (ad 8) (ad 9) (ad 10) (ad 11) (ad 12) (iv 0) (iv 1) (iv 2) (iv 3) (iv 4) (iv 5) (iv 6) mz mp ma mx (gf 3) w9 k9 h9 (gf 7) a0 a1 a2 (by first | with_reducible assumption | assumption) (by first | with_reducible assumption | assumption) (by first | with_reducible assumption | assumption) (by first | with_reducible assumption | assumption) (by first | with_reducible assumption | assumption) (by first | with_reducible assumption | assumption)) rfl (pmB [0, 4, 8, 1, 2, 3, 5, 6, 7, 9, 10, 11, 12, 13] 14 rfl (by decide +kernel) rfl) ?_
  rintro t r e2 ⟨fsn, fcn, man, w9n, k9n, h9n, hP1, hD1, g_0, g_1, g_2, g_3, g_4, g_5, g_6, g_7, g_8⟩
  exact ⟨e2, [[(xo_8_rrriirrriiiiiiirrirrrrri mo (ad 0) (ad 1) (ad 2) (iv 0) (iv 1) (ad 3) (ad 4) (ad 5) (nI mz) (iv 2) (nI mp) (iv 3) (iv 4) (iv 5) (iv 6) (ad 6) (ad 7) (nI man) (ad 8) (ad 9) (ad 10) (ad 11) (ad 12) (nI mx))], [(xI (ad 3) cI 38 fsn)], [(xI (ad 7) cI 912 fcn)]], [[(xo_8_rrriirrriiiiiiirrirrrrri mo (ad 0) (ad 1) (ad 2) (iv 0) (iv 1) (ad 3) (ad 4) (ad 5) (nI mz) (iv 2) (nI mp) (iv 3) (iv 4) (iv 5) (iv 6) (ad 6) (ad 7) (nI man) (ad 8) (ad 9) (ad 10) (ad 11) (ad 12) (nI mx))], [(xI (ad 0) cI 8 (gf 0))], [(xI (ad 1) cI 8 (gf 1))], [(xI (ad 2) cI 320 (gf 2))], [(xI (ad 3) cI 38 fsn)], [(xI (ad 4) cI 40 (gf 4))], [(xI (ad 5) cI 120 (gf 5))], [(xI (ad 6) cI 38 (gf 6))], [(xI (ad 7) cI 912 fcn)], [(xI (ad 8) cI 38 (gf 8))], [(xI (ad 9) cI 16 (gf 9))], [(xI (ad 10) cZ 2 (gf 10))], [(xI (ad 11) cI 76 (gf 11))], [(xI (ad 12) cI 16 (gf 12))]], hP1, hD1, ⟨_, _, _, _, _, _, _, _, _, _, _, _, _, _, rfl, ⟨ad, iv, (fun k => [(gf 0), (gf 1), (gf 2), fsn, (gf 4), (gf 5), (gf 6), fcn, (gf 8), (gf 9), (gf 10), (gf 11), (gf 12)].getD k (fun _ => 0)), mz, mp, man, mx, w9n, k9n, h9n, rfl, rfl, rfl, rfl, rfl, rfl, rfl, rfl, rfl, rfl, rfl, rfl, rfl, rfl, (by first | with_reducible assumption | omega | assumption | exact (fun h_ => ⟨(congrFun g_1 0).trans (f_0_3 h_).1, (f_0_3 h_).2⟩) | (intro h_; simp_all)), (by first | with_reducible assumption | omega | assumption | exact (fun h_ => ⟨(congrFun g_1 0).trans (f_0_3 h_).1, (f_0_3 h_).2⟩) | (intro h_; simp_all)), (by first | with_reducible assumption | omega | assumption | exact (fun h_ => ⟨(congrFun g_1 0).trans (f_0_3 h_).1, (f_0_3 h_).2⟩) | (intro h_; simp_all)), (by first | with_reducible assumption | omega | assumption | exact (fun h_ => ⟨(congrFun g_1 0).trans (f_0_3 h_).1, (f_0_3 h_).2⟩) | (intro h_; simp_all)), (by first | with_reducible assumption | omega | assumption | exact (fun h_ => ⟨(congrFun g_1 0).trans (f_0_3 h_).1, (f_0_3 h_).2⟩) | (intro h_; simp_all)), (by first | with_reducible assumption | omega | assumption | exact (fun h_ => ⟨(congrFun g_1 0).trans (f_0_3 h_).1, (f_0_3 h_).2⟩) | (intro h_; simp_all)), f_0_6, f_0_7, f_0_8, f_0_9, f_0_10, f_0_11, rfl, rfl, rfl, rfl, rfl, (by first | with_reducible rfl | (symm; with_reducible assumption) | (symm; subst_vars; with_reducible exact acX_rst) | (symm; subst_vars; with_reducible exact acX_lev) | rfl | (symm; assumption) | (symm; subst_vars; exact acX_rst) | (symm; subst_vars; exact acX_lev) | (subst_vars; rfl)), (by first | with_reducible rfl | (symm; with_reducible assumption) | (symm; subst_vars; with_reducible exact acX_rst) | (symm; subst_vars; with_reducible exact acX_lev) | rfl | (symm; assumption) | (symm; subst_vars; exact acX_rst) | (symm; subst_vars; exact acX_lev) | (subst_vars; rfl)), (by first | with_reducible rfl | (symm; with_reducible assumption) | (symm; subst_vars; with_reducible exact acX_rst) | (symm; subst_vars; with_reducible exact acX_lev) | rfl | (symm; assumption) | (symm; subst_vars; exact acX_rst) | (symm; subst_vars; exact acX_lev) | (subst_vars; rfl)), rfl, rfl, rfl, rfl, rfl, rfl⟩⟩, (pmB [0, 4, 8, 1, 2, 3, 5, 6, 7, 9, 10, 11, 12, 13] 14 rfl (by decide +kernel) rfl)⟩
set_option maxHeartbeats 4000000 in
set_option maxRecDepth 100000 in
theorem w_X8_sell (l : Launch) (dC : Nat → ClassId) (dI : Nat → Nat → Nat) (cI cZ cL cJ : ClassId) (sz : Nat) (mo : Nat) (Rl : Nat → Int32) (Rn : Nat → Int32) (zt : Nat) (Tb : Nat → Int32) (lf : Int32) (Lv : Nat → Int32) (An : Nat) (Ac : Nat → Nat → Int32) (I0 : Nat → Int32) (I1 : Nat → Int32) (Tz : Nat) (Tc : Nat → Int32) (sg : Int32) (It : Nat → Nat → Int32) (ws : va_W) (a0 : Int32)  (hI : ISM cI cZ cL cJ mo Rl Rn zt Tb lf Lv An Ac I0 I1 Tz Tc sg It ws) : Met l yX8_sell wsX8_sell ({ frames := 1, cells := 0, slots := 0, locals := 25 }) (va_Pc [.ref mo, .int a0] (wpx dC dI [(cI, .int), (cZ, .boolean), (cL, .object RX3), (cJ, .array .int)] sz ws)) (va_Qi (fun r (_ : Unit) => r = a_sell Lv a0) (fun _ t => wox dC dI (ISM cI cZ cL cJ mo Rl Rn zt Tb lf (n_sell Lv a0) (kpN (gd_sell Lv a0) An) (kpA (gd_sell Lv a0) Lv An Ac) I0 I1 Tz Tc sg It) sz ws t) (va_A ws sz)) 0 0 (va_A ws sz) := by
  refine ISM_el (P := fun (ws : va_W) => Met l yX8_sell wsX8_sell ({ frames := 1, cells := 0, slots := 0, locals := 25 }) (va_Pc [.ref mo, .int a0] (wpx dC dI [(cI, .int), (cZ, .boolean), (cL, .object RX3), (cJ, .array .int)] sz ws)) (va_Qi (fun r (_ : Unit) => r = a_sell Lv a0) (fun _ t => wox dC dI (ISM cI cZ cL cJ mo Rl Rn zt Tb lf (n_sell Lv a0) (kpN (gd_sell Lv a0) An) (kpA (gd_sell Lv a0) Lv An Ac) I0 I1 Tz Tc sg It) sz ws t) (va_A ws sz)) 0 0 (va_A ws sz)) hI (fun ad iv gf mz mp ma mx w9 k9 h9 f_0_0 f_0_1 f_0_2 f_0_3 f_0_4 f_0_5 f_0_6 f_0_7 f_0_8 f_0_9 f_0_10 f_0_11 eq_0_0 eq_0_1 eq_0_2 eq_0_3 eq_0_4 eq_0_5 eq_0_6 eq_0_7 eq_0_8 eq_0_9 eq_0_10 eq_0_11 eq_0_12 eq_0_13 hI0 => ?_)
  subst eq_0_0
  subst eq_0_1
  obtain rfl : mz = zt := eq_0_2.symm
  subst eq_0_3
  subst eq_0_4
  subst eq_0_5
  obtain rfl : ma = An := eq_0_6.symm
  subst eq_0_7
  subst eq_0_8
  subst eq_0_9
  obtain rfl : mx = Tz := eq_0_10.symm
  subst eq_0_11
  subst eq_0_12
  subst eq_0_13
  refine wd_Bi (cs := [[(xo_8_rrriirrriiiiiiirrirrrrri mo (ad 0) (ad 1) (ad 2) (iv 0) (iv 1) (ad 3) (ad 4) (ad 5) (nI mz) (iv 2) (nI mp) (iv 3) (iv 4) (iv 5) (iv 6) (ad 6) (ad 7) (nI ma) (ad 8) (ad 9) (ad 10) (ad 11) (ad 12) (nI mx))], [(xI (ad 3) cI 38 (gf 3))], [(xI (ad 7) cI 912 (gf 7))]]) (rs := [[(xI (ad 0) cI 8 (gf 0))], [(xI (ad 1) cI 8 (gf 1))], [(xI (ad 2) cI 320 (gf 2))], [(xI (ad 4) cI 40 (gf 4))], [(xI (ad 5) cI 120 (gf 5))], [(xI (ad 6) cI 38 (gf 6))], [(xI (ad 8) cI 38 (gf 8))], [(xI (ad 9) cI 16 (gf 9))], [(xI (ad 10) cZ 2 (gf 10))], [(xI (ad 11) cI 76 (gf 11))], [(xI (ad 12) cI 16 (gf 12))]]) (r_X8_sell l dC dI cI cZ cL cJ sz mo (ad 0) (ad 1) (ad 2) (ad 3) (ad 4) (ad 5) (ad 6) (ad 7) (ad 8) (ad 9) (ad 10) (ad 11) (ad 12) (iv 0) (iv 1) (iv 2) (iv 3) (iv 4) (iv 5) (iv 6) mz mp ma mx (gf 3) w9 k9 h9 (gf 7) a0 (by first | with_reducible assumption | assumption) (by first | with_reducible assumption | assumption) (by first | with_reducible assumption | assumption) (by first | with_reducible assumption | assumption) (by first | with_reducible assumption | assumption) (by first | with_reducible assumption | assumption)) rfl (pmB [0, 4, 8, 1, 2, 3, 5, 6, 7, 9, 10, 11, 12, 13] 14 rfl (by decide +kernel) rfl) ?_
  rintro t r e2 ⟨fsn, fcn, man, w9n, k9n, h9n, hP1, hD1, g_0, g_1, g_2, g_3, g_4, g_5, g_6, g_7, g_8⟩
  exact ⟨e2, [[(xo_8_rrriirrriiiiiiirrirrrrri mo (ad 0) (ad 1) (ad 2) (iv 0) (iv 1) (ad 3) (ad 4) (ad 5) (nI mz) (iv 2) (nI mp) (iv 3) (iv 4) (iv 5) (iv 6) (ad 6) (ad 7) (nI man) (ad 8) (ad 9) (ad 10) (ad 11) (ad 12) (nI mx))], [(xI (ad 3) cI 38 fsn)], [(xI (ad 7) cI 912 fcn)]], [[(xo_8_rrriirrriiiiiiirrirrrrri mo (ad 0) (ad 1) (ad 2) (iv 0) (iv 1) (ad 3) (ad 4) (ad 5) (nI mz) (iv 2) (nI mp) (iv 3) (iv 4) (iv 5) (iv 6) (ad 6) (ad 7) (nI man) (ad 8) (ad 9) (ad 10) (ad 11) (ad 12) (nI mx))], [(xI (ad 0) cI 8 (gf 0))], [(xI (ad 1) cI 8 (gf 1))], [(xI (ad 2) cI 320 (gf 2))], [(xI (ad 3) cI 38 fsn)], [(xI (ad 4) cI 40 (gf 4))], [(xI (ad 5) cI 120 (gf 5))], [(xI (ad 6) cI 38 (gf 6))], [(xI (ad 7) cI 912 fcn)], [(xI (ad 8) cI 38 (gf 8))], [(xI (ad 9) cI 16 (gf 9))], [(xI (ad 10) cZ 2 (gf 10))], [(xI (ad 11) cI 76 (gf 11))], [(xI (ad 12) cI 16 (gf 12))]], hP1, hD1, ⟨_, _, _, _, _, _, _, _, _, _, _, _, _, _, rfl, ⟨ad, iv, (fun k => [(gf 0), (gf 1), (gf 2), fsn, (gf 4), (gf 5), (gf 6), fcn, (gf 8), (gf 9), (gf 10), (gf 11), (gf 12)].getD k (fun _ => 0)), mz, mp, man, mx, w9n, k9n, h9n, rfl, rfl, rfl, rfl, rfl, rfl, rfl, rfl, rfl, rfl, rfl, rfl, rfl, rfl, (by first | with_reducible assumption | omega | assumption | exact (fun h_ => ⟨(congrFun g_1 0).trans (f_0_3 h_).1, (f_0_3 h_).2⟩) | (intro h_; simp_all)), (by first | with_reducible assumption | omega | assumption | exact (fun h_ => ⟨(congrFun g_1 0).trans (f_0_3 h_).1, (f_0_3 h_).2⟩) | (intro h_; simp_all)), (by first | with_reducible assumption | omega | assumption | exact (fun h_ => ⟨(congrFun g_1 0).trans (f_0_3 h_).1, (f_0_3 h_).2⟩) | (intro h_; simp_all)), (by first | with_reducible assumption | omega | assumption | exact (fun h_ => ⟨(congrFun g_1 0).trans (f_0_3 h_).1, (f_0_3 h_).2⟩) | (intro h_; simp_all)), (by first | with_reducible assumption | omega | assumption | exact (fun h_ => ⟨(congrFun g_1 0).trans (f_0_3 h_).1, (f_0_3 h_).2⟩) | (intro h_; simp_all)), (by first | with_reducible assumption | omega | assumption | exact (fun h_ => ⟨(congrFun g_1 0).trans (f_0_3 h_).1, (f_0_3 h_).2⟩) | (intro h_; simp_all)), f_0_6, f_0_7, f_0_8, f_0_9, f_0_10, f_0_11, rfl, rfl, rfl, rfl, rfl, (by first | with_reducible rfl | (symm; with_reducible assumption) | (symm; subst_vars; with_reducible exact acX_rst) | (symm; subst_vars; with_reducible exact acX_lev) | rfl | (symm; assumption) | (symm; subst_vars; exact acX_rst) | (symm; subst_vars; exact acX_lev) | (subst_vars; rfl)), (by first | with_reducible rfl | (symm; with_reducible assumption) | (symm; subst_vars; with_reducible exact acX_rst) | (symm; subst_vars; with_reducible exact acX_lev) | rfl | (symm; assumption) | (symm; subst_vars; exact acX_rst) | (symm; subst_vars; exact acX_lev) | (subst_vars; rfl)), (by first | with_reducible rfl | (symm; with_reducible assumption) | (symm; subst_vars; with_reducible exact acX_rst) | (symm; subst_vars; with_reducible exact acX_lev) | rfl | (symm; assumption) | (symm; subst_vars; exact acX_rst) | (symm; subst_vars; exact acX_lev) | (subst_vars; rfl)), rfl, rfl, rfl, rfl, rfl, rfl⟩⟩, (pmB [0, 4, 8, 1, 2, 3, 5, 6, 7, 9, 10, 11, 12, 13] 14 rfl (by decide +kernel) rfl)⟩
set_option maxHeartbeats 4000000 in
set_option maxRecDepth 100000 in
theorem w_X8_sound (l : Launch) (dC : Nat → ClassId) (dI : Nat → Nat → Nat) (cI cZ cL cJ : ClassId) (sz : Nat) (mo : Nat) (Rl : Nat → Int32) (Rn : Nat → Int32) (zt : Nat) (Tb : Nat → Int32) (lf : Int32) (Lv : Nat → Int32) (An : Nat) (Ac : Nat → Nat → Int32) (I0 : Nat → Int32) (I1 : Nat → Int32) (Tz : Nat) (Tc : Nat → Int32) (sg : Int32) (It : Nat → Nat → Int32) (ws : va_W) (a0 a1 : Int32)  (hI : ISM cI cZ cL cJ mo Rl Rn zt Tb lf Lv An Ac I0 I1 Tz Tc sg It ws) : Met l yX8_sound wsX8_sound ({ frames := 2, cells := 0, slots := 0, locals := 46 }) (va_Pc [.ref mo, .int a0, .int a1] (wpx dC dI [(cI, .int), (cZ, .boolean), (cL, .object RX3), (cJ, .array .int)] sz ws)) (va_Qi (fun r (_ : Unit) => r = a_sound Lv a0 a1) (fun _ t => wox dC dI (ISM cI cZ cL cJ mo Rl Rn zt Tb lf Lv An Ac I0 I1 Tz Tc sg It) sz ws t) (va_A ws sz)) 0 0 (va_A ws sz) := by
  refine ISM_el (P := fun (ws : va_W) => Met l yX8_sound wsX8_sound ({ frames := 2, cells := 0, slots := 0, locals := 46 }) (va_Pc [.ref mo, .int a0, .int a1] (wpx dC dI [(cI, .int), (cZ, .boolean), (cL, .object RX3), (cJ, .array .int)] sz ws)) (va_Qi (fun r (_ : Unit) => r = a_sound Lv a0 a1) (fun _ t => wox dC dI (ISM cI cZ cL cJ mo Rl Rn zt Tb lf Lv An Ac I0 I1 Tz Tc sg It) sz ws t) (va_A ws sz)) 0 0 (va_A ws sz)) hI (fun ad iv gf mz mp ma mx w9 k9 h9 f_0_0 f_0_1 f_0_2 f_0_3 f_0_4 f_0_5 f_0_6 f_0_7 f_0_8 f_0_9 f_0_10 f_0_11 eq_0_0 eq_0_1 eq_0_2 eq_0_3 eq_0_4 eq_0_5 eq_0_6 eq_0_7 eq_0_8 eq_0_9 eq_0_10 eq_0_11 eq_0_12 eq_0_13 hI0 => ?_)
  subst eq_0_0
  subst eq_0_1
  obtain rfl : mz = zt := eq_0_2.symm
  subst eq_0_3
  subst eq_0_4
  subst eq_0_5
  obtain rfl : ma = An := eq_0_6.symm
  subst eq_0_7
  subst eq_0_8
  subst eq_0_9
  obtain rfl : mx = Tz := eq_0_10.symm
  subst eq_0_11
  subst eq_0_12
  subst eq_0_13
  exact wd_PPi (post := fun r => r = (a_sound (m38 (gf 3)) a0 a1)) (cs := [[(xo_8_rrriirrriiiiiiirrirrrrri mo (ad 0) (ad 1) (ad 2) (iv 0) (iv 1) (ad 3) (ad 4) (ad 5) (nI mz) (iv 2) (nI mp) (iv 3) (iv 4) (iv 5) (iv 6) (ad 6) (ad 7) (nI ma) (ad 8) (ad 9) (ad 10) (ad 11) (ad 12) (nI mx))], [(xI (ad 3) cI 38 (gf 3))]]) (rs := [[(xI (ad 0) cI 8 (gf 0))], [(xI (ad 1) cI 8 (gf 1))], [(xI (ad 2) cI 320 (gf 2))], [(xI (ad 4) cI 40 (gf 4))], [(xI (ad 5) cI 120 (gf 5))], [(xI (ad 6) cI 38 (gf 6))], [(xI (ad 7) cI 912 (gf 7))], [(xI (ad 8) cI 38 (gf 8))], [(xI (ad 9) cI 16 (gf 9))], [(xI (ad 10) cZ 2 (gf 10))], [(xI (ad 11) cI 76 (gf 11))], [(xI (ad 12) cI 16 (gf 12))]]) (r_X8_sound l dC dI cI cZ cL cJ mo (ad 0) (ad 1) (ad 2) (ad 3) (ad 4) (ad 5) (ad 6) (ad 7) (ad 8) (ad 9) (ad 10) (ad 11) (ad 12) (iv 0) (iv 1) (iv 2) (iv 3) (iv 4) (iv 5) (iv 6) mz mp ma mx (gf 3) w9 k9 h9 a0 a1 (by first | with_reducible assumption | assumption) (by first | with_reducible assumption | assumption) (by first | with_reducible assumption | assumption) (by first | with_reducible assumption | assumption)) rfl (pmB [0, 4, 1, 2, 3, 5, 6, 7, 8, 9, 10, 11, 12, 13] 14 rfl (by decide +kernel) rfl) hI0 (fun r h => h)
set_option maxHeartbeats 4000000 in
set_option maxRecDepth 100000 in
theorem w_X8_stand (l : Launch) (dC : Nat → ClassId) (dI : Nat → Nat → Nat) (cI cZ cL cJ : ClassId) (sz : Nat) (mo : Nat) (Rl : Nat → Int32) (Rn : Nat → Int32) (zt : Nat) (Tb : Nat → Int32) (lf : Int32) (Lv : Nat → Int32) (An : Nat) (Ac : Nat → Nat → Int32) (I0 : Nat → Int32) (I1 : Nat → Int32) (Tz : Nat) (Tc : Nat → Int32) (sg : Int32) (It : Nat → Nat → Int32) (ws : va_W) (a0 : Int32)  (hI : ISM cI cZ cL cJ mo Rl Rn zt Tb lf Lv An Ac I0 I1 Tz Tc sg It ws) : Met l yX8_stand wsX8_stand ({ frames := 1, cells := 0, slots := 0, locals := 23 }) (va_Pc [.ref mo, .int a0] (wpx dC dI [(cI, .int), (cZ, .boolean), (cL, .object RX3), (cJ, .array .int)] sz ws)) (va_Qi (fun r (_ : Unit) => r = a_stand Lv a0) (fun _ t => wox dC dI (ISM cI cZ cL cJ mo Rl Rn zt Tb lf Lv An Ac I0 I1 Tz Tc sg It) sz ws t) (va_A ws sz)) 0 0 (va_A ws sz) := by
  refine ISM_el (P := fun (ws : va_W) => Met l yX8_stand wsX8_stand ({ frames := 1, cells := 0, slots := 0, locals := 23 }) (va_Pc [.ref mo, .int a0] (wpx dC dI [(cI, .int), (cZ, .boolean), (cL, .object RX3), (cJ, .array .int)] sz ws)) (va_Qi (fun r (_ : Unit) => r = a_stand Lv a0) (fun _ t => wox dC dI (ISM cI cZ cL cJ mo Rl Rn zt Tb lf Lv An Ac I0 I1 Tz Tc sg It) sz ws t) (va_A ws sz)) 0 0 (va_A ws sz)) hI (fun ad iv gf mz mp ma mx w9 k9 h9 f_0_0 f_0_1 f_0_2 f_0_3 f_0_4 f_0_5 f_0_6 f_0_7 f_0_8 f_0_9 f_0_10 f_0_11 eq_0_0 eq_0_1 eq_0_2 eq_0_3 eq_0_4 eq_0_5 eq_0_6 eq_0_7 eq_0_8 eq_0_9 eq_0_10 eq_0_11 eq_0_12 eq_0_13 hI0 => ?_)
  subst eq_0_0
  subst eq_0_1
  obtain rfl : mz = zt := eq_0_2.symm
  subst eq_0_3
  subst eq_0_4
  subst eq_0_5
  obtain rfl : ma = An := eq_0_6.symm
  subst eq_0_7
  subst eq_0_8
  subst eq_0_9
  obtain rfl : mx = Tz := eq_0_10.symm
  subst eq_0_11
  subst eq_0_12
  subst eq_0_13
  exact wd_PPi (post := fun r => r = (a_stand (m38 (gf 3)) a0)) (cs := [[(xo_8_rrriirrriiiiiiirrirrrrri mo (ad 0) (ad 1) (ad 2) (iv 0) (iv 1) (ad 3) (ad 4) (ad 5) (nI mz) (iv 2) (nI mp) (iv 3) (iv 4) (iv 5) (iv 6) (ad 6) (ad 7) (nI ma) (ad 8) (ad 9) (ad 10) (ad 11) (ad 12) (nI mx))], [(xI (ad 3) cI 38 (gf 3))]]) (rs := [[(xI (ad 0) cI 8 (gf 0))], [(xI (ad 1) cI 8 (gf 1))], [(xI (ad 2) cI 320 (gf 2))], [(xI (ad 4) cI 40 (gf 4))], [(xI (ad 5) cI 120 (gf 5))], [(xI (ad 6) cI 38 (gf 6))], [(xI (ad 7) cI 912 (gf 7))], [(xI (ad 8) cI 38 (gf 8))], [(xI (ad 9) cI 16 (gf 9))], [(xI (ad 10) cZ 2 (gf 10))], [(xI (ad 11) cI 76 (gf 11))], [(xI (ad 12) cI 16 (gf 12))]]) (r_X8_stand l dC dI cI cZ cL cJ mo (ad 0) (ad 1) (ad 2) (ad 3) (ad 4) (ad 5) (ad 6) (ad 7) (ad 8) (ad 9) (ad 10) (ad 11) (ad 12) (iv 0) (iv 1) (iv 2) (iv 3) (iv 4) (iv 5) (iv 6) mz mp ma mx (gf 3) w9 k9 h9 a0 (by first | with_reducible assumption | assumption) (by first | with_reducible assumption | assumption) (by first | with_reducible assumption | assumption) (by first | with_reducible assumption | assumption)) rfl (pmB [0, 4, 1, 2, 3, 5, 6, 7, 8, 9, 10, 11, 12, 13] 14 rfl (by decide +kernel) rfl) hI0 (fun r h => h)
set_option maxHeartbeats 4000000 in
set_option maxRecDepth 100000 in
theorem w_X8_gust (l : Launch) (dC : Nat → ClassId) (dI : Nat → Nat → Nat) (cI cZ cL cJ : ClassId) (sz : Nat) (mo : Nat) (Rl : Nat → Int32) (Rn : Nat → Int32) (zt : Nat) (Tb : Nat → Int32) (lf : Int32) (Lv : Nat → Int32) (An : Nat) (Ac : Nat → Nat → Int32) (I0 : Nat → Int32) (I1 : Nat → Int32) (Tz : Nat) (Tc : Nat → Int32) (sg : Int32) (It : Nat → Nat → Int32) (ws : va_W) (a0 : Int32)  (hI : ISM cI cZ cL cJ mo Rl Rn zt Tb lf Lv An Ac I0 I1 Tz Tc sg It ws) : Met l yX8_gust wsX8_gust ({ frames := 1, cells := 0, slots := 0, locals := 25 }) (va_Pc [.ref mo, .int a0] (wpx dC dI [(cI, .int), (cZ, .boolean), (cL, .object RX3), (cJ, .array .int)] sz ws)) (va_Qi (fun r (_ : Unit) => r = a_gust Lv a0) (fun _ t => wox dC dI (ISM cI cZ cL cJ mo Rl Rn zt Tb lf Lv An Ac I0 I1 Tz Tc sg It) sz ws t) (va_A ws sz)) 0 0 (va_A ws sz) := by
  refine ISM_el (P := fun (ws : va_W) => Met l yX8_gust wsX8_gust ({ frames := 1, cells := 0, slots := 0, locals := 25 }) (va_Pc [.ref mo, .int a0] (wpx dC dI [(cI, .int), (cZ, .boolean), (cL, .object RX3), (cJ, .array .int)] sz ws)) (va_Qi (fun r (_ : Unit) => r = a_gust Lv a0) (fun _ t => wox dC dI (ISM cI cZ cL cJ mo Rl Rn zt Tb lf Lv An Ac I0 I1 Tz Tc sg It) sz ws t) (va_A ws sz)) 0 0 (va_A ws sz)) hI (fun ad iv gf mz mp ma mx w9 k9 h9 f_0_0 f_0_1 f_0_2 f_0_3 f_0_4 f_0_5 f_0_6 f_0_7 f_0_8 f_0_9 f_0_10 f_0_11 eq_0_0 eq_0_1 eq_0_2 eq_0_3 eq_0_4 eq_0_5 eq_0_6 eq_0_7 eq_0_8 eq_0_9 eq_0_10 eq_0_11 eq_0_12 eq_0_13 hI0 => ?_)
  subst eq_0_0
  subst eq_0_1
  obtain rfl : mz = zt := eq_0_2.symm
  subst eq_0_3
  subst eq_0_4
  subst eq_0_5
  obtain rfl : ma = An := eq_0_6.symm
  subst eq_0_7
  subst eq_0_8
  subst eq_0_9
  obtain rfl : mx = Tz := eq_0_10.symm
  subst eq_0_11
  subst eq_0_12
  subst eq_0_13
  exact wd_PPi (post := fun r => r = (a_gust (m38 (gf 3)) a0)) (cs := [[(xo_8_rrriirrriiiiiiirrirrrrri mo (ad 0) (ad 1) (ad 2) (iv 0) (iv 1) (ad 3) (ad 4) (ad 5) (nI mz) (iv 2) (nI mp) (iv 3) (iv 4) (iv 5) (iv 6) (ad 6) (ad 7) (nI ma) (ad 8) (ad 9) (ad 10) (ad 11) (ad 12) (nI mx))], [(xI (ad 3) cI 38 (gf 3))]]) (rs := [[(xI (ad 0) cI 8 (gf 0))], [(xI (ad 1) cI 8 (gf 1))], [(xI (ad 2) cI 320 (gf 2))], [(xI (ad 4) cI 40 (gf 4))], [(xI (ad 5) cI 120 (gf 5))], [(xI (ad 6) cI 38 (gf 6))], [(xI (ad 7) cI 912 (gf 7))], [(xI (ad 8) cI 38 (gf 8))], [(xI (ad 9) cI 16 (gf 9))], [(xI (ad 10) cZ 2 (gf 10))], [(xI (ad 11) cI 76 (gf 11))], [(xI (ad 12) cI 16 (gf 12))]]) (r_X8_gust l dC dI cI cZ cL cJ mo (ad 0) (ad 1) (ad 2) (ad 3) (ad 4) (ad 5) (ad 6) (ad 7) (ad 8) (ad 9) (ad 10) (ad 11) (ad 12) (iv 0) (iv 1) (iv 2) (iv 3) (iv 4) (iv 5) (iv 6) mz mp ma mx (gf 3) w9 k9 h9 a0 (by first | with_reducible assumption | assumption) (by first | with_reducible assumption | assumption) (by first | with_reducible assumption | assumption) (by first | with_reducible assumption | assumption)) rfl (pmB [0, 4, 1, 2, 3, 5, 6, 7, 8, 9, 10, 11, 12, 13] 14 rfl (by decide +kernel) rfl) hI0 (fun r h => h)
set_option maxHeartbeats 4000000 in
set_option maxRecDepth 100000 in
theorem w_X8_ahead (l : Launch) (dC : Nat → ClassId) (dI : Nat → Nat → Nat) (cI cZ cL cJ : ClassId) (sz : Nat) (mo : Nat) (Rl : Nat → Int32) (Rn : Nat → Int32) (zt : Nat) (Tb : Nat → Int32) (lf : Int32) (Lv : Nat → Int32) (An : Nat) (Ac : Nat → Nat → Int32) (I0 : Nat → Int32) (I1 : Nat → Int32) (Tz : Nat) (Tc : Nat → Int32) (sg : Int32) (It : Nat → Nat → Int32) (ws : va_W) (a0 a1 a2 : Int32)  (hI : ISM cI cZ cL cJ mo Rl Rn zt Tb lf Lv An Ac I0 I1 Tz Tc sg It ws) : Met l yX8_ahead wsX8_ahead ({ frames := 5, cells := 0, slots := 0, locals := 117 }) (va_Pc [.ref mo, .int a0, .int a1, .int a2] (wpx dC dI [(cI, .int), (cZ, .boolean), (cL, .object RX3), (cJ, .array .int)] sz ws)) (va_Qi (fun r (_ : Unit) => r = a_ahd Lv a0 a1 a2) (fun _ t => wox dC dI (ISM cI cZ cL cJ mo Rl Rn zt Tb lf Lv An Ac I0 I1 Tz Tc sg It) sz ws t) (va_A ws sz)) 0 0 (va_A ws sz) := by
  refine ISM_el (P := fun (ws : va_W) => Met l yX8_ahead wsX8_ahead ({ frames := 5, cells := 0, slots := 0, locals := 117 }) (va_Pc [.ref mo, .int a0, .int a1, .int a2] (wpx dC dI [(cI, .int), (cZ, .boolean), (cL, .object RX3), (cJ, .array .int)] sz ws)) (va_Qi (fun r (_ : Unit) => r = a_ahd Lv a0 a1 a2) (fun _ t => wox dC dI (ISM cI cZ cL cJ mo Rl Rn zt Tb lf Lv An Ac I0 I1 Tz Tc sg It) sz ws t) (va_A ws sz)) 0 0 (va_A ws sz)) hI (fun ad iv gf mz mp ma mx w9 k9 h9 f_0_0 f_0_1 f_0_2 f_0_3 f_0_4 f_0_5 f_0_6 f_0_7 f_0_8 f_0_9 f_0_10 f_0_11 eq_0_0 eq_0_1 eq_0_2 eq_0_3 eq_0_4 eq_0_5 eq_0_6 eq_0_7 eq_0_8 eq_0_9 eq_0_10 eq_0_11 eq_0_12 eq_0_13 hI0 => ?_)
  subst eq_0_0
  subst eq_0_1
  obtain rfl : mz = zt := eq_0_2.symm
  subst eq_0_3
  subst eq_0_4
  subst eq_0_5
  obtain rfl : ma = An := eq_0_6.symm
  subst eq_0_7
  subst eq_0_8
  subst eq_0_9
  obtain rfl : mx = Tz := eq_0_10.symm
  subst eq_0_11
  subst eq_0_12
  subst eq_0_13
  refine wd_Bi (cs := [[(xo_8_rrriirrriiiiiiirrirrrrri mo (ad 0) (ad 1) (ad 2) (iv 0) (iv 1) (ad 3) (ad 4) (ad 5) (nI mz) (iv 2) (nI mp) (iv 3) (iv 4) (iv 5) (iv 6) (ad 6) (ad 7) (nI ma) (ad 8) (ad 9) (ad 10) (ad 11) (ad 12) (nI mx))], [(xI (ad 3) cI 38 (gf 3))], [(xI (ad 8) cI 38 (gf 8))]]) (rs := [[(xI (ad 0) cI 8 (gf 0))], [(xI (ad 1) cI 8 (gf 1))], [(xI (ad 2) cI 320 (gf 2))], [(xI (ad 4) cI 40 (gf 4))], [(xI (ad 5) cI 120 (gf 5))], [(xI (ad 6) cI 38 (gf 6))], [(xI (ad 7) cI 912 (gf 7))], [(xI (ad 9) cI 16 (gf 9))], [(xI (ad 10) cZ 2 (gf 10))], [(xI (ad 11) cI 76 (gf 11))], [(xI (ad 12) cI 16 (gf 12))]]) (r_X8_ahead l dC dI cI cZ cL cJ sz mo (ad 0) (ad 1) (ad 2) (ad 3) (ad 4) (ad 5) (ad 6) (ad 7) (ad 8) (ad 9) (ad 10) (ad 11) (ad 12) (iv 0) (iv 1) (iv 2) (iv 3) (iv 4) (iv 5) (iv 6) mz mp ma mx (gf 3) w9 k9 h9 (gf 8) a0 a1 a2 (by first | with_reducible assumption | assumption) (by first | with_reducible assumption | assumption) (by first | with_reducible assumption | assumption) (by first | with_reducible assumption | assumption)) rfl (pmB [0, 4, 9, 1, 2, 3, 5, 6, 7, 8, 10, 11, 12, 13] 14 rfl (by decide +kernel) rfl) ?_
  rintro t r e2 ⟨fsn, fan, hP1, hD1, g_0, g_1⟩
  exact ⟨e2, [[(xo_8_rrriirrriiiiiiirrirrrrri mo (ad 0) (ad 1) (ad 2) (iv 0) (iv 1) (ad 3) (ad 4) (ad 5) (nI mz) (iv 2) (nI mp) (iv 3) (iv 4) (iv 5) (iv 6) (ad 6) (ad 7) (nI ma) (ad 8) (ad 9) (ad 10) (ad 11) (ad 12) (nI mx))], [(xI (ad 3) cI 38 fsn)], [(xI (ad 8) cI 38 fan)]], [[(xo_8_rrriirrriiiiiiirrirrrrri mo (ad 0) (ad 1) (ad 2) (iv 0) (iv 1) (ad 3) (ad 4) (ad 5) (nI mz) (iv 2) (nI mp) (iv 3) (iv 4) (iv 5) (iv 6) (ad 6) (ad 7) (nI ma) (ad 8) (ad 9) (ad 10) (ad 11) (ad 12) (nI mx))], [(xI (ad 0) cI 8 (gf 0))], [(xI (ad 1) cI 8 (gf 1))], [(xI (ad 2) cI 320 (gf 2))], [(xI (ad 3) cI 38 fsn)], [(xI (ad 4) cI 40 (gf 4))], [(xI (ad 5) cI 120 (gf 5))], [(xI (ad 6) cI 38 (gf 6))], [(xI (ad 7) cI 912 (gf 7))], [(xI (ad 8) cI 38 fan)], [(xI (ad 9) cI 16 (gf 9))], [(xI (ad 10) cZ 2 (gf 10))], [(xI (ad 11) cI 76 (gf 11))], [(xI (ad 12) cI 16 (gf 12))]], hP1, hD1, ⟨_, _, _, _, _, _, _, _, _, _, _, _, _, _, rfl, ⟨ad, iv, (fun k => [(gf 0), (gf 1), (gf 2), fsn, (gf 4), (gf 5), (gf 6), (gf 7), fan, (gf 9), (gf 10), (gf 11), (gf 12)].getD k (fun _ => 0)), mz, mp, ma, mx, w9, k9, h9, rfl, rfl, rfl, rfl, rfl, rfl, rfl, rfl, rfl, rfl, rfl, rfl, rfl, rfl, (by first | with_reducible assumption | omega | assumption | exact (fun h_ => ⟨(congrFun g_1 0).trans (f_0_3 h_).1, (f_0_3 h_).2⟩) | (intro h_; simp_all)), f_0_1, f_0_2, (by first | with_reducible assumption | omega | assumption | exact (fun h_ => ⟨(congrFun g_1 0).trans (f_0_3 h_).1, (f_0_3 h_).2⟩) | (intro h_; simp_all)), f_0_4, f_0_5, f_0_6, f_0_7, f_0_8, f_0_9, f_0_10, f_0_11, rfl, rfl, rfl, rfl, rfl, (by first | with_reducible rfl | (symm; with_reducible assumption) | (symm; subst_vars; with_reducible exact acX_rst) | (symm; subst_vars; with_reducible exact acX_lev) | rfl | (symm; assumption) | (symm; subst_vars; exact acX_rst) | (symm; subst_vars; exact acX_lev) | (subst_vars; rfl)), rfl, rfl, rfl, rfl, rfl, rfl, rfl, rfl⟩⟩, (pmB [0, 4, 9, 1, 2, 3, 5, 6, 7, 8, 10, 11, 12, 13] 14 rfl (by decide +kernel) rfl)⟩
set_option maxHeartbeats 4000000 in
set_option maxRecDepth 100000 in
theorem w_X8_meal (l : Launch) (dC : Nat → ClassId) (dI : Nat → Nat → Nat) (cI cZ cL cJ : ClassId) (sz : Nat) (mo : Nat) (Rl : Nat → Int32) (Rn : Nat → Int32) (zt : Nat) (Tb : Nat → Int32) (lf : Int32) (Lv : Nat → Int32) (An : Nat) (Ac : Nat → Nat → Int32) (I0 : Nat → Int32) (I1 : Nat → Int32) (Tz : Nat) (Tc : Nat → Int32) (sg : Int32) (It : Nat → Nat → Int32) (ws : va_W) (a0 : Int32)  (hI : ISM cI cZ cL cJ mo Rl Rn zt Tb lf Lv An Ac I0 I1 Tz Tc sg It ws) : Met l yX8_meal wsX8_meal ({ frames := 6, cells := 0, slots := 0, locals := 139 }) (va_Pc [.ref mo, .int a0] (wpx dC dI [(cI, .int), (cZ, .boolean), (cL, .object RX3), (cJ, .array .int)] sz ws)) (va_Qi (fun r (_ : Unit) => r = a_meal Lv a0) (fun _ t => wox dC dI (ISM cI cZ cL cJ mo Rl Rn zt Tb lf Lv An Ac I0 I1 Tz Tc sg It) sz ws t) (va_A ws sz)) 0 0 (va_A ws sz) := by
  refine ISM_el (P := fun (ws : va_W) => Met l yX8_meal wsX8_meal ({ frames := 6, cells := 0, slots := 0, locals := 139 }) (va_Pc [.ref mo, .int a0] (wpx dC dI [(cI, .int), (cZ, .boolean), (cL, .object RX3), (cJ, .array .int)] sz ws)) (va_Qi (fun r (_ : Unit) => r = a_meal Lv a0) (fun _ t => wox dC dI (ISM cI cZ cL cJ mo Rl Rn zt Tb lf Lv An Ac I0 I1 Tz Tc sg It) sz ws t) (va_A ws sz)) 0 0 (va_A ws sz)) hI (fun ad iv gf mz mp ma mx w9 k9 h9 f_0_0 f_0_1 f_0_2 f_0_3 f_0_4 f_0_5 f_0_6 f_0_7 f_0_8 f_0_9 f_0_10 f_0_11 eq_0_0 eq_0_1 eq_0_2 eq_0_3 eq_0_4 eq_0_5 eq_0_6 eq_0_7 eq_0_8 eq_0_9 eq_0_10 eq_0_11 eq_0_12 eq_0_13 hI0 => ?_)
  subst eq_0_0
  subst eq_0_1
  obtain rfl : mz = zt := eq_0_2.symm
  subst eq_0_3
  subst eq_0_4
  subst eq_0_5
  obtain rfl : ma = An := eq_0_6.symm
  subst eq_0_7
  subst eq_0_8
  subst eq_0_9
  obtain rfl : mx = Tz := eq_0_10.symm
  subst eq_0_11
  subst eq_0_12
  subst eq_0_13
  refine wd_Bi (cs := [[(xo_8_rrriirrriiiiiiirrirrrrri mo (ad 0) (ad 1) (ad 2) (iv 0) (iv 1) (ad 3) (ad 4) (ad 5) (nI mz) (iv 2) (nI mp) (iv 3) (iv 4) (iv 5) (iv 6) (ad 6) (ad 7) (nI ma) (ad 8) (ad 9) (ad 10) (ad 11) (ad 12) (nI mx))], [(xI (ad 3) cI 38 (gf 3))], [(xI (ad 8) cI 38 (gf 8))]]) (rs := [[(xI (ad 0) cI 8 (gf 0))], [(xI (ad 1) cI 8 (gf 1))], [(xI (ad 2) cI 320 (gf 2))], [(xI (ad 4) cI 40 (gf 4))], [(xI (ad 5) cI 120 (gf 5))], [(xI (ad 6) cI 38 (gf 6))], [(xI (ad 7) cI 912 (gf 7))], [(xI (ad 9) cI 16 (gf 9))], [(xI (ad 10) cZ 2 (gf 10))], [(xI (ad 11) cI 76 (gf 11))], [(xI (ad 12) cI 16 (gf 12))]]) (r_X8_meal l dC dI cI cZ cL cJ sz mo (ad 0) (ad 1) (ad 2) (ad 3) (ad 4) (ad 5) (ad 6) (ad 7) (ad 8) (ad 9) (ad 10) (ad 11) (ad 12) (iv 0) (iv 1) (iv 2) (iv 3) (iv 4) (iv 5) (iv 6) mz mp ma mx (gf 3) w9 k9 h9 (gf 8) a0 (by first | with_reducible assumption | assumption) (by first | with_reducible assumption | assumption) (by first | with_reducible assumption | assumption) (by first | with_reducible assumption | assumption)) rfl (pmB [0, 4, 9, 1, 2, 3, 5, 6, 7, 8, 10, 11, 12, 13] 14 rfl (by decide +kernel) rfl) ?_
  rintro t r e2 ⟨fsn, fan, hP1, hD1, g_0, g_1⟩
  exact ⟨e2, [[(xo_8_rrriirrriiiiiiirrirrrrri mo (ad 0) (ad 1) (ad 2) (iv 0) (iv 1) (ad 3) (ad 4) (ad 5) (nI mz) (iv 2) (nI mp) (iv 3) (iv 4) (iv 5) (iv 6) (ad 6) (ad 7) (nI ma) (ad 8) (ad 9) (ad 10) (ad 11) (ad 12) (nI mx))], [(xI (ad 3) cI 38 fsn)], [(xI (ad 8) cI 38 fan)]], [[(xo_8_rrriirrriiiiiiirrirrrrri mo (ad 0) (ad 1) (ad 2) (iv 0) (iv 1) (ad 3) (ad 4) (ad 5) (nI mz) (iv 2) (nI mp) (iv 3) (iv 4) (iv 5) (iv 6) (ad 6) (ad 7) (nI ma) (ad 8) (ad 9) (ad 10) (ad 11) (ad 12) (nI mx))], [(xI (ad 0) cI 8 (gf 0))], [(xI (ad 1) cI 8 (gf 1))], [(xI (ad 2) cI 320 (gf 2))], [(xI (ad 3) cI 38 fsn)], [(xI (ad 4) cI 40 (gf 4))], [(xI (ad 5) cI 120 (gf 5))], [(xI (ad 6) cI 38 (gf 6))], [(xI (ad 7) cI 912 (gf 7))], [(xI (ad 8) cI 38 fan)], [(xI (ad 9) cI 16 (gf 9))], [(xI (ad 10) cZ 2 (gf 10))], [(xI (ad 11) cI 76 (gf 11))], [(xI (ad 12) cI 16 (gf 12))]], hP1, hD1, ⟨_, _, _, _, _, _, _, _, _, _, _, _, _, _, rfl, ⟨ad, iv, (fun k => [(gf 0), (gf 1), (gf 2), fsn, (gf 4), (gf 5), (gf 6), (gf 7), fan, (gf 9), (gf 10), (gf 11), (gf 12)].getD k (fun _ => 0)), mz, mp, ma, mx, w9, k9, h9, rfl, rfl, rfl, rfl, rfl, rfl, rfl, rfl, rfl, rfl, rfl, rfl, rfl, rfl, (by first | with_reducible assumption | omega | assumption | exact (fun h_ => ⟨(congrFun g_1 0).trans (f_0_3 h_).1, (f_0_3 h_).2⟩) | (intro h_; simp_all)), f_0_1, f_0_2, (by first | with_reducible assumption | omega | assumption | exact (fun h_ => ⟨(congrFun g_1 0).trans (f_0_3 h_).1, (f_0_3 h_).2⟩) | (intro h_; simp_all)), f_0_4, f_0_5, f_0_6, f_0_7, f_0_8, f_0_9, f_0_10, f_0_11, rfl, rfl, rfl, rfl, rfl, (by first | with_reducible rfl | (symm; with_reducible assumption) | (symm; subst_vars; with_reducible exact acX_rst) | (symm; subst_vars; with_reducible exact acX_lev) | rfl | (symm; assumption) | (symm; subst_vars; exact acX_rst) | (symm; subst_vars; exact acX_lev) | (subst_vars; rfl)), rfl, rfl, rfl, rfl, rfl, rfl, rfl, rfl⟩⟩, (pmB [0, 4, 9, 1, 2, 3, 5, 6, 7, 8, 10, 11, 12, 13] 14 rfl (by decide +kernel) rfl)⟩
set_option maxHeartbeats 4000000 in
set_option maxRecDepth 100000 in
theorem w_X8_when (l : Launch) (dC : Nat → ClassId) (dI : Nat → Nat → Nat) (cI cZ cL cJ : ClassId) (sz : Nat) (mo : Nat) (Rl : Nat → Int32) (Rn : Nat → Int32) (zt : Nat) (Tb : Nat → Int32) (lf : Int32) (Lv : Nat → Int32) (An : Nat) (Ac : Nat → Nat → Int32) (I0 : Nat → Int32) (I1 : Nat → Int32) (Tz : Nat) (Tc : Nat → Int32) (sg : Int32) (It : Nat → Nat → Int32) (ws : va_W) (a0 a1 : Int32)  (hI : ISM cI cZ cL cJ mo Rl Rn zt Tb lf Lv An Ac I0 I1 Tz Tc sg It ws) : Met l yX8_when wsX8_when ({ frames := 4, cells := 0, slots := 0, locals := 95 }) (va_Pc [.ref mo, .int a0, .int a1] (wpx dC dI [(cI, .int), (cZ, .boolean), (cL, .object RX3), (cJ, .array .int)] sz ws)) (va_Qi (fun r (_ : Unit) => r = a_when Lv a0 a1) (fun _ t => wox dC dI (ISM cI cZ cL cJ mo Rl Rn zt Tb lf Lv An Ac I0 I1 Tz Tc sg It) sz ws t) (va_A ws sz)) 0 0 (va_A ws sz) := by
  refine ISM_el (P := fun (ws : va_W) => Met l yX8_when wsX8_when ({ frames := 4, cells := 0, slots := 0, locals := 95 }) (va_Pc [.ref mo, .int a0, .int a1] (wpx dC dI [(cI, .int), (cZ, .boolean), (cL, .object RX3), (cJ, .array .int)] sz ws)) (va_Qi (fun r (_ : Unit) => r = a_when Lv a0 a1) (fun _ t => wox dC dI (ISM cI cZ cL cJ mo Rl Rn zt Tb lf Lv An Ac I0 I1 Tz Tc sg It) sz ws t) (va_A ws sz)) 0 0 (va_A ws sz)) hI (fun ad iv gf mz mp ma mx w9 k9 h9 f_0_0 f_0_1 f_0_2 f_0_3 f_0_4 f_0_5 f_0_6 f_0_7 f_0_8 f_0_9 f_0_10 f_0_11 eq_0_0 eq_0_1 eq_0_2 eq_0_3 eq_0_4 eq_0_5 eq_0_6 eq_0_7 eq_0_8 eq_0_9 eq_0_10 eq_0_11 eq_0_12 eq_0_13 hI0 => ?_)
  subst eq_0_0
  subst eq_0_1
  obtain rfl : mz = zt := eq_0_2.symm
  subst eq_0_3
  subst eq_0_4
  subst eq_0_5
  obtain rfl : ma = An := eq_0_6.symm
  subst eq_0_7
  subst eq_0_8
  subst eq_0_9
  obtain rfl : mx = Tz := eq_0_10.symm
  subst eq_0_11
  subst eq_0_12
  subst eq_0_13
  refine wd_Bi (cs := [[(xo_8_rrriirrriiiiiiirrirrrrri mo (ad 0) (ad 1) (ad 2) (iv 0) (iv 1) (ad 3) (ad 4) (ad 5) (nI mz) (iv 2) (nI mp) (iv 3) (iv 4) (iv 5) (iv 6) (ad 6) (ad 7) (nI ma) (ad 8) (ad 9) (ad 10) (ad 11) (ad 12) (nI mx))], [(xI (ad 3) cI 38 (gf 3))], [(xI (ad 8) cI 38 (gf 8))]]) (rs := [[(xI (ad 0) cI 8 (gf 0))], [(xI (ad 1) cI 8 (gf 1))], [(xI (ad 2) cI 320 (gf 2))], [(xI (ad 4) cI 40 (gf 4))], [(xI (ad 5) cI 120 (gf 5))], [(xI (ad 6) cI 38 (gf 6))], [(xI (ad 7) cI 912 (gf 7))], [(xI (ad 9) cI 16 (gf 9))], [(xI (ad 10) cZ 2 (gf 10))], [(xI (ad 11) cI 76 (gf 11))], [(xI (ad 12) cI 16 (gf 12))]]) (r_X8_when l dC dI cI cZ cL cJ sz mo (ad 0) (ad 1) (ad 2) (ad 3) (ad 4) (ad 5) (ad 6) (ad 7) (ad 8) (ad 9) (ad 10) (ad 11) (ad 12) (iv 0) (iv 1) (iv 2) (iv 3) (iv 4) (iv 5) (iv 6) mz mp ma mx (gf 3) w9 k9 h9 (gf 8) a0 a1 (by first | with_reducible assumption | assumption) (by first | with_reducible assumption | assumption) (by first | with_reducible assumption | assumption) (by first | with_reducible assumption | assumption)) rfl (pmB [0, 4, 9, 1, 2, 3, 5, 6, 7, 8, 10, 11, 12, 13] 14 rfl (by decide +kernel) rfl) ?_
  rintro t r e2 ⟨fsn, fan, hP1, hD1, g_0, g_1⟩
  exact ⟨e2, [[(xo_8_rrriirrriiiiiiirrirrrrri mo (ad 0) (ad 1) (ad 2) (iv 0) (iv 1) (ad 3) (ad 4) (ad 5) (nI mz) (iv 2) (nI mp) (iv 3) (iv 4) (iv 5) (iv 6) (ad 6) (ad 7) (nI ma) (ad 8) (ad 9) (ad 10) (ad 11) (ad 12) (nI mx))], [(xI (ad 3) cI 38 fsn)], [(xI (ad 8) cI 38 fan)]], [[(xo_8_rrriirrriiiiiiirrirrrrri mo (ad 0) (ad 1) (ad 2) (iv 0) (iv 1) (ad 3) (ad 4) (ad 5) (nI mz) (iv 2) (nI mp) (iv 3) (iv 4) (iv 5) (iv 6) (ad 6) (ad 7) (nI ma) (ad 8) (ad 9) (ad 10) (ad 11) (ad 12) (nI mx))], [(xI (ad 0) cI 8 (gf 0))], [(xI (ad 1) cI 8 (gf 1))], [(xI (ad 2) cI 320 (gf 2))], [(xI (ad 3) cI 38 fsn)], [(xI (ad 4) cI 40 (gf 4))], [(xI (ad 5) cI 120 (gf 5))], [(xI (ad 6) cI 38 (gf 6))], [(xI (ad 7) cI 912 (gf 7))], [(xI (ad 8) cI 38 fan)], [(xI (ad 9) cI 16 (gf 9))], [(xI (ad 10) cZ 2 (gf 10))], [(xI (ad 11) cI 76 (gf 11))], [(xI (ad 12) cI 16 (gf 12))]], hP1, hD1, ⟨_, _, _, _, _, _, _, _, _, _, _, _, _, _, rfl, ⟨ad, iv, (fun k => [(gf 0), (gf 1), (gf 2), fsn, (gf 4), (gf 5), (gf 6), (gf 7), fan, (gf 9), (gf 10), (gf 11), (gf 12)].getD k (fun _ => 0)), mz, mp, ma, mx, w9, k9, h9, rfl, rfl, rfl, rfl, rfl, rfl, rfl, rfl, rfl, rfl, rfl, rfl, rfl, rfl, (by first | with_reducible assumption | omega | assumption | exact (fun h_ => ⟨(congrFun g_1 0).trans (f_0_3 h_).1, (f_0_3 h_).2⟩) | (intro h_; simp_all)), f_0_1, f_0_2, (by first | with_reducible assumption | omega | assumption | exact (fun h_ => ⟨(congrFun g_1 0).trans (f_0_3 h_).1, (f_0_3 h_).2⟩) | (intro h_; simp_all)), f_0_4, f_0_5, f_0_6, f_0_7, f_0_8, f_0_9, f_0_10, f_0_11, rfl, rfl, rfl, rfl, rfl, (by first | with_reducible rfl | (symm; with_reducible assumption) | (symm; subst_vars; with_reducible exact acX_rst) | (symm; subst_vars; with_reducible exact acX_lev) | rfl | (symm; assumption) | (symm; subst_vars; exact acX_rst) | (symm; subst_vars; exact acX_lev) | (subst_vars; rfl)), rfl, rfl, rfl, rfl, rfl, rfl, rfl, rfl⟩⟩, (pmB [0, 4, 9, 1, 2, 3, 5, 6, 7, 8, 10, 11, 12, 13] 14 rfl (by decide +kernel) rfl)⟩
set_option maxHeartbeats 4000000 in
set_option maxRecDepth 100000 in
theorem w_X8_caps (l : Launch) (dC : Nat → ClassId) (dI : Nat → Nat → Nat) (cI cZ cL cJ : ClassId) (sz : Nat) (mo : Nat) (Rl : Nat → Int32) (Rn : Nat → Int32) (zt : Nat) (Tb : Nat → Int32) (lf : Int32) (Lv : Nat → Int32) (An : Nat) (Ac : Nat → Nat → Int32) (I0 : Nat → Int32) (I1 : Nat → Int32) (Tz : Nat) (Tc : Nat → Int32) (sg : Int32) (It : Nat → Nat → Int32) (ws : va_W) (a0 a1 : Int32)  (hI : ISM cI cZ cL cJ mo Rl Rn zt Tb lf Lv An Ac I0 I1 Tz Tc sg It ws) : Met l yX8_caps wsX8_caps ({ frames := 5, cells := 0, slots := 0, locals := 120 }) (va_Pc [.ref mo, .int a0, .int a1] (wpx dC dI [(cI, .int), (cZ, .boolean), (cL, .object RX3), (cJ, .array .int)] sz ws)) (va_Qi (fun r (_ : Unit) => r = a_caps Lv a0 a1) (fun _ t => wox dC dI (ISM cI cZ cL cJ mo Rl Rn zt Tb lf Lv An Ac I0 I1 Tz Tc sg It) sz ws t) (va_A ws sz)) 0 0 (va_A ws sz) := by
  refine ISM_el (P := fun (ws : va_W) => Met l yX8_caps wsX8_caps ({ frames := 5, cells := 0, slots := 0, locals := 120 }) (va_Pc [.ref mo, .int a0, .int a1] (wpx dC dI [(cI, .int), (cZ, .boolean), (cL, .object RX3), (cJ, .array .int)] sz ws)) (va_Qi (fun r (_ : Unit) => r = a_caps Lv a0 a1) (fun _ t => wox dC dI (ISM cI cZ cL cJ mo Rl Rn zt Tb lf Lv An Ac I0 I1 Tz Tc sg It) sz ws t) (va_A ws sz)) 0 0 (va_A ws sz)) hI (fun ad iv gf mz mp ma mx w9 k9 h9 f_0_0 f_0_1 f_0_2 f_0_3 f_0_4 f_0_5 f_0_6 f_0_7 f_0_8 f_0_9 f_0_10 f_0_11 eq_0_0 eq_0_1 eq_0_2 eq_0_3 eq_0_4 eq_0_5 eq_0_6 eq_0_7 eq_0_8 eq_0_9 eq_0_10 eq_0_11 eq_0_12 eq_0_13 hI0 => ?_)
  subst eq_0_0
  subst eq_0_1
  obtain rfl : mz = zt := eq_0_2.symm
  subst eq_0_3
  subst eq_0_4
  subst eq_0_5
  obtain rfl : ma = An := eq_0_6.symm
  subst eq_0_7
  subst eq_0_8
  subst eq_0_9
  obtain rfl : mx = Tz := eq_0_10.symm
  subst eq_0_11
  subst eq_0_12
  subst eq_0_13
  refine wd_Bi (cs := [[(xo_8_rrriirrriiiiiiirrirrrrri mo (ad 0) (ad 1) (ad 2) (iv 0) (iv 1) (ad 3) (ad 4) (ad 5) (nI mz) (iv 2) (nI mp) (iv 3) (iv 4) (iv 5) (iv 6) (ad 6) (ad 7) (nI ma) (ad 8) (ad 9) (ad 10) (ad 11) (ad 12) (nI mx))], [(xI (ad 3) cI 38 (gf 3))], [(xI (ad 8) cI 38 (gf 8))]]) (rs := [[(xI (ad 0) cI 8 (gf 0))], [(xI (ad 1) cI 8 (gf 1))], [(xI (ad 2) cI 320 (gf 2))], [(xI (ad 4) cI 40 (gf 4))], [(xI (ad 5) cI 120 (gf 5))], [(xI (ad 6) cI 38 (gf 6))], [(xI (ad 7) cI 912 (gf 7))], [(xI (ad 9) cI 16 (gf 9))], [(xI (ad 10) cZ 2 (gf 10))], [(xI (ad 11) cI 76 (gf 11))], [(xI (ad 12) cI 16 (gf 12))]]) (r_X8_caps l dC dI cI cZ cL cJ sz mo (ad 0) (ad 1) (ad 2) (ad 3) (ad 4) (ad 5) (ad 6) (ad 7) (ad 8) (ad 9) (ad 10) (ad 11) (ad 12) (iv 0) (iv 1) (iv 2) (iv 3) (iv 4) (iv 5) (iv 6) mz mp ma mx (gf 3) w9 k9 h9 (gf 8) a0 a1 (by first | with_reducible assumption | assumption) (by first | with_reducible assumption | assumption) (by first | with_reducible assumption | assumption) (by first | with_reducible assumption | assumption)) rfl (pmB [0, 4, 9, 1, 2, 3, 5, 6, 7, 8, 10, 11, 12, 13] 14 rfl (by decide +kernel) rfl) ?_
  rintro t r e2 ⟨fsn, fan, hP1, hD1, g_0, g_1⟩
  exact ⟨e2, [[(xo_8_rrriirrriiiiiiirrirrrrri mo (ad 0) (ad 1) (ad 2) (iv 0) (iv 1) (ad 3) (ad 4) (ad 5) (nI mz) (iv 2) (nI mp) (iv 3) (iv 4) (iv 5) (iv 6) (ad 6) (ad 7) (nI ma) (ad 8) (ad 9) (ad 10) (ad 11) (ad 12) (nI mx))], [(xI (ad 3) cI 38 fsn)], [(xI (ad 8) cI 38 fan)]], [[(xo_8_rrriirrriiiiiiirrirrrrri mo (ad 0) (ad 1) (ad 2) (iv 0) (iv 1) (ad 3) (ad 4) (ad 5) (nI mz) (iv 2) (nI mp) (iv 3) (iv 4) (iv 5) (iv 6) (ad 6) (ad 7) (nI ma) (ad 8) (ad 9) (ad 10) (ad 11) (ad 12) (nI mx))], [(xI (ad 0) cI 8 (gf 0))], [(xI (ad 1) cI 8 (gf 1))], [(xI (ad 2) cI 320 (gf 2))], [(xI (ad 3) cI 38 fsn)], [(xI (ad 4) cI 40 (gf 4))], [(xI (ad 5) cI 120 (gf 5))], [(xI (ad 6) cI 38 (gf 6))], [(xI (ad 7) cI 912 (gf 7))], [(xI (ad 8) cI 38 fan)], [(xI (ad 9) cI 16 (gf 9))], [(xI (ad 10) cZ 2 (gf 10))], [(xI (ad 11) cI 76 (gf 11))], [(xI (ad 12) cI 16 (gf 12))]], hP1, hD1, ⟨_, _, _, _, _, _, _, _, _, _, _, _, _, _, rfl, ⟨ad, iv, (fun k => [(gf 0), (gf 1), (gf 2), fsn, (gf 4), (gf 5), (gf 6), (gf 7), fan, (gf 9), (gf 10), (gf 11), (gf 12)].getD k (fun _ => 0)), mz, mp, ma, mx, w9, k9, h9, rfl, rfl, rfl, rfl, rfl, rfl, rfl, rfl, rfl, rfl, rfl, rfl, rfl, rfl, (by first | with_reducible assumption | omega | assumption | exact (fun h_ => ⟨(congrFun g_1 0).trans (f_0_3 h_).1, (f_0_3 h_).2⟩) | (intro h_; simp_all)), f_0_1, f_0_2, (by first | with_reducible assumption | omega | assumption | exact (fun h_ => ⟨(congrFun g_1 0).trans (f_0_3 h_).1, (f_0_3 h_).2⟩) | (intro h_; simp_all)), f_0_4, f_0_5, f_0_6, f_0_7, f_0_8, f_0_9, f_0_10, f_0_11, rfl, rfl, rfl, rfl, rfl, (by first | with_reducible rfl | (symm; with_reducible assumption) | (symm; subst_vars; with_reducible exact acX_rst) | (symm; subst_vars; with_reducible exact acX_lev) | rfl | (symm; assumption) | (symm; subst_vars; exact acX_rst) | (symm; subst_vars; exact acX_lev) | (subst_vars; rfl)), rfl, rfl, rfl, rfl, rfl, rfl, rfl, rfl⟩⟩, (pmB [0, 4, 9, 1, 2, 3, 5, 6, 7, 8, 10, 11, 12, 13] 14 rfl (by decide +kernel) rfl)⟩
set_option maxHeartbeats 4000000 in
set_option maxRecDepth 100000 in
theorem w_X8_had (l : Launch) (dC : Nat → ClassId) (dI : Nat → Nat → Nat) (cI cZ cL cJ : ClassId) (sz : Nat) (mo : Nat) (Rl : Nat → Int32) (Rn : Nat → Int32) (zt : Nat) (Tb : Nat → Int32) (lf : Int32) (Lv : Nat → Int32) (An : Nat) (Ac : Nat → Nat → Int32) (I0 : Nat → Int32) (I1 : Nat → Int32) (Tz : Nat) (Tc : Nat → Int32) (sg : Int32) (It : Nat → Nat → Int32) (ws : va_W) (a0 a1 : Int32)  (hI : ISM cI cZ cL cJ mo Rl Rn zt Tb lf Lv An Ac I0 I1 Tz Tc sg It ws) : Met l yX8_had wsX8_had ({ frames := 5, cells := 0, slots := 0, locals := 120 }) (va_Pc [.ref mo, .int a0, .int a1] (wpx dC dI [(cI, .int), (cZ, .boolean), (cL, .object RX3), (cJ, .array .int)] sz ws)) (va_Qi (fun r (_ : Unit) => r = a_had Lv a0 a1) (fun _ t => wox dC dI (ISM cI cZ cL cJ mo Rl Rn zt Tb lf Lv An Ac I0 I1 Tz Tc sg It) sz ws t) (va_A ws sz)) 0 0 (va_A ws sz) := by
  refine ISM_el (P := fun (ws : va_W) => Met l yX8_had wsX8_had ({ frames := 5, cells := 0, slots := 0, locals := 120 }) (va_Pc [.ref mo, .int a0, .int a1] (wpx dC dI [(cI, .int), (cZ, .boolean), (cL, .object RX3), (cJ, .array .int)] sz ws)) (va_Qi (fun r (_ : Unit) => r = a_had Lv a0 a1) (fun _ t => wox dC dI (ISM cI cZ cL cJ mo Rl Rn zt Tb lf Lv An Ac I0 I1 Tz Tc sg It) sz ws t) (va_A ws sz)) 0 0 (va_A ws sz)) hI (fun ad iv gf mz mp ma mx w9 k9 h9 f_0_0 f_0_1 f_0_2 f_0_3 f_0_4 f_0_5 f_0_6 f_0_7 f_0_8 f_0_9 f_0_10 f_0_11 eq_0_0 eq_0_1 eq_0_2 eq_0_3 eq_0_4 eq_0_5 eq_0_6 eq_0_7 eq_0_8 eq_0_9 eq_0_10 eq_0_11 eq_0_12 eq_0_13 hI0 => ?_)
  subst eq_0_0
  subst eq_0_1
  obtain rfl : mz = zt := eq_0_2.symm
  subst eq_0_3
  subst eq_0_4
  subst eq_0_5
  obtain rfl : ma = An := eq_0_6.symm
  subst eq_0_7
  subst eq_0_8
  subst eq_0_9
  obtain rfl : mx = Tz := eq_0_10.symm
  subst eq_0_11
  subst eq_0_12
  subst eq_0_13
  refine wd_Bi (cs := [[(xo_8_rrriirrriiiiiiirrirrrrri mo (ad 0) (ad 1) (ad 2) (iv 0) (iv 1) (ad 3) (ad 4) (ad 5) (nI mz) (iv 2) (nI mp) (iv 3) (iv 4) (iv 5) (iv 6) (ad 6) (ad 7) (nI ma) (ad 8) (ad 9) (ad 10) (ad 11) (ad 12) (nI mx))], [(xI (ad 3) cI 38 (gf 3))], [(xI (ad 8) cI 38 (gf 8))]]) (rs := [[(xI (ad 0) cI 8 (gf 0))], [(xI (ad 1) cI 8 (gf 1))], [(xI (ad 2) cI 320 (gf 2))], [(xI (ad 4) cI 40 (gf 4))], [(xI (ad 5) cI 120 (gf 5))], [(xI (ad 6) cI 38 (gf 6))], [(xI (ad 7) cI 912 (gf 7))], [(xI (ad 9) cI 16 (gf 9))], [(xI (ad 10) cZ 2 (gf 10))], [(xI (ad 11) cI 76 (gf 11))], [(xI (ad 12) cI 16 (gf 12))]]) (r_X8_had l dC dI cI cZ cL cJ sz mo (ad 0) (ad 1) (ad 2) (ad 3) (ad 4) (ad 5) (ad 6) (ad 7) (ad 8) (ad 9) (ad 10) (ad 11) (ad 12) (iv 0) (iv 1) (iv 2) (iv 3) (iv 4) (iv 5) (iv 6) mz mp ma mx (gf 3) w9 k9 h9 (gf 8) a0 a1 (by first | with_reducible assumption | assumption) (by first | with_reducible assumption | assumption) (by first | with_reducible assumption | assumption) (by first | with_reducible assumption | assumption)) rfl (pmB [0, 4, 9, 1, 2, 3, 5, 6, 7, 8, 10, 11, 12, 13] 14 rfl (by decide +kernel) rfl) ?_
  rintro t r e2 ⟨fsn, fan, hP1, hD1, g_0, g_1⟩
  exact ⟨e2, [[(xo_8_rrriirrriiiiiiirrirrrrri mo (ad 0) (ad 1) (ad 2) (iv 0) (iv 1) (ad 3) (ad 4) (ad 5) (nI mz) (iv 2) (nI mp) (iv 3) (iv 4) (iv 5) (iv 6) (ad 6) (ad 7) (nI ma) (ad 8) (ad 9) (ad 10) (ad 11) (ad 12) (nI mx))], [(xI (ad 3) cI 38 fsn)], [(xI (ad 8) cI 38 fan)]], [[(xo_8_rrriirrriiiiiiirrirrrrri mo (ad 0) (ad 1) (ad 2) (iv 0) (iv 1) (ad 3) (ad 4) (ad 5) (nI mz) (iv 2) (nI mp) (iv 3) (iv 4) (iv 5) (iv 6) (ad 6) (ad 7) (nI ma) (ad 8) (ad 9) (ad 10) (ad 11) (ad 12) (nI mx))], [(xI (ad 0) cI 8 (gf 0))], [(xI (ad 1) cI 8 (gf 1))], [(xI (ad 2) cI 320 (gf 2))], [(xI (ad 3) cI 38 fsn)], [(xI (ad 4) cI 40 (gf 4))], [(xI (ad 5) cI 120 (gf 5))], [(xI (ad 6) cI 38 (gf 6))], [(xI (ad 7) cI 912 (gf 7))], [(xI (ad 8) cI 38 fan)], [(xI (ad 9) cI 16 (gf 9))], [(xI (ad 10) cZ 2 (gf 10))], [(xI (ad 11) cI 76 (gf 11))], [(xI (ad 12) cI 16 (gf 12))]], hP1, hD1, ⟨_, _, _, _, _, _, _, _, _, _, _, _, _, _, rfl, ⟨ad, iv, (fun k => [(gf 0), (gf 1), (gf 2), fsn, (gf 4), (gf 5), (gf 6), (gf 7), fan, (gf 9), (gf 10), (gf 11), (gf 12)].getD k (fun _ => 0)), mz, mp, ma, mx, w9, k9, h9, rfl, rfl, rfl, rfl, rfl, rfl, rfl, rfl, rfl, rfl, rfl, rfl, rfl, rfl, (by first | with_reducible assumption | omega | assumption | exact (fun h_ => ⟨(congrFun g_1 0).trans (f_0_3 h_).1, (f_0_3 h_).2⟩) | (intro h_; simp_all)), f_0_1, f_0_2, (by first | with_reducible assumption | omega | assumption | exact (fun h_ => ⟨(congrFun g_1 0).trans (f_0_3 h_).1, (f_0_3 h_).2⟩) | (intro h_; simp_all)), f_0_4, f_0_5, f_0_6, f_0_7, f_0_8, f_0_9, f_0_10, f_0_11, rfl, rfl, rfl, rfl, rfl, (by first | with_reducible rfl | (symm; with_reducible assumption) | (symm; subst_vars; with_reducible exact acX_rst) | (symm; subst_vars; with_reducible exact acX_lev) | rfl | (symm; assumption) | (symm; subst_vars; exact acX_rst) | (symm; subst_vars; exact acX_lev) | (subst_vars; rfl)), rfl, rfl, rfl, rfl, rfl, rfl, rfl, rfl⟩⟩, (pmB [0, 4, 9, 1, 2, 3, 5, 6, 7, 8, 10, 11, 12, 13] 14 rfl (by decide +kernel) rfl)⟩
set_option maxHeartbeats 4000000 in
set_option maxRecDepth 100000 in
theorem w_X8_site (l : Launch) (dC : Nat → ClassId) (dI : Nat → Nat → Nat) (cI cZ cL cJ : ClassId) (sz : Nat) (mo : Nat) (Rl : Nat → Int32) (Rn : Nat → Int32) (zt : Nat) (Tb : Nat → Int32) (lf : Int32) (Lv : Nat → Int32) (An : Nat) (Ac : Nat → Nat → Int32) (I0 : Nat → Int32) (I1 : Nat → Int32) (Tz : Nat) (Tc : Nat → Int32) (sg : Int32) (It : Nat → Nat → Int32) (ws : va_W) (a0 a1 : Int32)  (hI : ISM cI cZ cL cJ mo Rl Rn zt Tb lf Lv An Ac I0 I1 Tz Tc sg It ws) : Met l yX8_site wsX8_site ({ frames := 6, cells := 0, slots := 0, locals := 139 }) (va_Pc [.ref mo, .int a0, .int a1] (wpx dC dI [(cI, .int), (cZ, .boolean), (cL, .object RX3), (cJ, .array .int)] sz ws)) (va_Qi (fun r (_ : Unit) => r = a_site Lv a0 a1) (fun _ t => wox dC dI (ISM cI cZ cL cJ mo Rl Rn zt Tb lf Lv An Ac I0 I1 Tz Tc sg It) sz ws t) (va_A ws sz)) 0 0 (va_A ws sz) := by
  refine ISM_el (P := fun (ws : va_W) => Met l yX8_site wsX8_site ({ frames := 6, cells := 0, slots := 0, locals := 139 }) (va_Pc [.ref mo, .int a0, .int a1] (wpx dC dI [(cI, .int), (cZ, .boolean), (cL, .object RX3), (cJ, .array .int)] sz ws)) (va_Qi (fun r (_ : Unit) => r = a_site Lv a0 a1) (fun _ t => wox dC dI (ISM cI cZ cL cJ mo Rl Rn zt Tb lf Lv An Ac I0 I1 Tz Tc sg It) sz ws t) (va_A ws sz)) 0 0 (va_A ws sz)) hI (fun ad iv gf mz mp ma mx w9 k9 h9 f_0_0 f_0_1 f_0_2 f_0_3 f_0_4 f_0_5 f_0_6 f_0_7 f_0_8 f_0_9 f_0_10 f_0_11 eq_0_0 eq_0_1 eq_0_2 eq_0_3 eq_0_4 eq_0_5 eq_0_6 eq_0_7 eq_0_8 eq_0_9 eq_0_10 eq_0_11 eq_0_12 eq_0_13 hI0 => ?_)
  subst eq_0_0
  subst eq_0_1
  obtain rfl : mz = zt := eq_0_2.symm
  subst eq_0_3
  subst eq_0_4
  subst eq_0_5
  obtain rfl : ma = An := eq_0_6.symm
  subst eq_0_7
  subst eq_0_8
  subst eq_0_9
  obtain rfl : mx = Tz := eq_0_10.symm
  subst eq_0_11
  subst eq_0_12
  subst eq_0_13
  refine wd_Bi (cs := [[(xo_8_rrriirrriiiiiiirrirrrrri mo (ad 0) (ad 1) (ad 2) (iv 0) (iv 1) (ad 3) (ad 4) (ad 5) (nI mz) (iv 2) (nI mp) (iv 3) (iv 4) (iv 5) (iv 6) (ad 6) (ad 7) (nI ma) (ad 8) (ad 9) (ad 10) (ad 11) (ad 12) (nI mx))], [(xI (ad 3) cI 38 (gf 3))], [(xI (ad 8) cI 38 (gf 8))]]) (rs := [[(xI (ad 0) cI 8 (gf 0))], [(xI (ad 1) cI 8 (gf 1))], [(xI (ad 2) cI 320 (gf 2))], [(xI (ad 4) cI 40 (gf 4))], [(xI (ad 5) cI 120 (gf 5))], [(xI (ad 6) cI 38 (gf 6))], [(xI (ad 7) cI 912 (gf 7))], [(xI (ad 9) cI 16 (gf 9))], [(xI (ad 10) cZ 2 (gf 10))], [(xI (ad 11) cI 76 (gf 11))], [(xI (ad 12) cI 16 (gf 12))]]) (r_X8_site l dC dI cI cZ cL cJ sz mo (ad 0) (ad 1) (ad 2) (ad 3) (ad 4) (ad 5) (ad 6) (ad 7) (ad 8) (ad 9) (ad 10) (ad 11) (ad 12) (iv 0) (iv 1) (iv 2) (iv 3) (iv 4) (iv 5) (iv 6) mz mp ma mx (gf 3) w9 k9 h9 (gf 8) a0 a1 (by first | with_reducible assumption | assumption) (by first | with_reducible assumption | assumption) (by first | with_reducible assumption | assumption) (by first | with_reducible assumption | assumption)) rfl (pmB [0, 4, 9, 1, 2, 3, 5, 6, 7, 8, 10, 11, 12, 13] 14 rfl (by decide +kernel) rfl) ?_
  rintro t r e2 ⟨fsn, fan, hP1, hD1, g_0, g_1⟩
  exact ⟨e2, [[(xo_8_rrriirrriiiiiiirrirrrrri mo (ad 0) (ad 1) (ad 2) (iv 0) (iv 1) (ad 3) (ad 4) (ad 5) (nI mz) (iv 2) (nI mp) (iv 3) (iv 4) (iv 5) (iv 6) (ad 6) (ad 7) (nI ma) (ad 8) (ad 9) (ad 10) (ad 11) (ad 12) (nI mx))], [(xI (ad 3) cI 38 fsn)], [(xI (ad 8) cI 38 fan)]], [[(xo_8_rrriirrriiiiiiirrirrrrri mo (ad 0) (ad 1) (ad 2) (iv 0) (iv 1) (ad 3) (ad 4) (ad 5) (nI mz) (iv 2) (nI mp) (iv 3) (iv 4) (iv 5) (iv 6) (ad 6) (ad 7) (nI ma) (ad 8) (ad 9) (ad 10) (ad 11) (ad 12) (nI mx))], [(xI (ad 0) cI 8 (gf 0))], [(xI (ad 1) cI 8 (gf 1))], [(xI (ad 2) cI 320 (gf 2))], [(xI (ad 3) cI 38 fsn)], [(xI (ad 4) cI 40 (gf 4))], [(xI (ad 5) cI 120 (gf 5))], [(xI (ad 6) cI 38 (gf 6))], [(xI (ad 7) cI 912 (gf 7))], [(xI (ad 8) cI 38 fan)], [(xI (ad 9) cI 16 (gf 9))], [(xI (ad 10) cZ 2 (gf 10))], [(xI (ad 11) cI 76 (gf 11))], [(xI (ad 12) cI 16 (gf 12))]], hP1, hD1, ⟨_, _, _, _, _, _, _, _, _, _, _, _, _, _, rfl, ⟨ad, iv, (fun k => [(gf 0), (gf 1), (gf 2), fsn, (gf 4), (gf 5), (gf 6), (gf 7), fan, (gf 9), (gf 10), (gf 11), (gf 12)].getD k (fun _ => 0)), mz, mp, ma, mx, w9, k9, h9, rfl, rfl, rfl, rfl, rfl, rfl, rfl, rfl, rfl, rfl, rfl, rfl, rfl, rfl, (by first | with_reducible assumption | omega | assumption | exact (fun h_ => ⟨(congrFun g_1 0).trans (f_0_3 h_).1, (f_0_3 h_).2⟩) | (intro h_; simp_all)), f_0_1, f_0_2, (by first | with_reducible assumption | omega | assumption | exact (fun h_ => ⟨(congrFun g_1 0).trans (f_0_3 h_).1, (f_0_3 h_).2⟩) | (intro h_; simp_all)), f_0_4, f_0_5, f_0_6, f_0_7, f_0_8, f_0_9, f_0_10, f_0_11, rfl, rfl, rfl, rfl, rfl, (by first | with_reducible rfl | (symm; with_reducible assumption) | (symm; subst_vars; with_reducible exact acX_rst) | (symm; subst_vars; with_reducible exact acX_lev) | rfl | (symm; assumption) | (symm; subst_vars; exact acX_rst) | (symm; subst_vars; exact acX_lev) | (subst_vars; rfl)), rfl, rfl, rfl, rfl, rfl, rfl, rfl, rfl⟩⟩, (pmB [0, 4, 9, 1, 2, 3, 5, 6, 7, 8, 10, 11, 12, 13] 14 rfl (by decide +kernel) rfl)⟩
set_option maxHeartbeats 4000000 in
set_option maxRecDepth 100000 in
theorem w_X8_sack (l : Launch) (dC : Nat → ClassId) (dI : Nat → Nat → Nat) (cI cZ cL cJ : ClassId) (sz : Nat) (mo : Nat) (Rl : Nat → Int32) (Rn : Nat → Int32) (zt : Nat) (Tb : Nat → Int32) (lf : Int32) (Lv : Nat → Int32) (An : Nat) (Ac : Nat → Nat → Int32) (I0 : Nat → Int32) (I1 : Nat → Int32) (Tz : Nat) (Tc : Nat → Int32) (sg : Int32) (It : Nat → Nat → Int32) (ws : va_W) (a0 a1 : Int32)  (hI : ISM cI cZ cL cJ mo Rl Rn zt Tb lf Lv An Ac I0 I1 Tz Tc sg It ws) : Met l yX8_sack wsX8_sack ({ frames := 2, cells := 0, slots := 0, locals := 44 }) (va_Pc [.ref mo, .int a0, .int a1] (wpx dC dI [(cI, .int), (cZ, .boolean), (cL, .object RX3), (cJ, .array .int)] sz ws)) (va_Qi (fun r (_ : Unit) => r = a_sack Lv a0 a1) (fun _ t => wox dC dI (ISM cI cZ cL cJ mo Rl Rn zt Tb lf Lv An Ac I0 I1 Tz Tc sg It) sz ws t) (va_A ws sz)) 0 0 (va_A ws sz) := by
  refine ISM_el (P := fun (ws : va_W) => Met l yX8_sack wsX8_sack ({ frames := 2, cells := 0, slots := 0, locals := 44 }) (va_Pc [.ref mo, .int a0, .int a1] (wpx dC dI [(cI, .int), (cZ, .boolean), (cL, .object RX3), (cJ, .array .int)] sz ws)) (va_Qi (fun r (_ : Unit) => r = a_sack Lv a0 a1) (fun _ t => wox dC dI (ISM cI cZ cL cJ mo Rl Rn zt Tb lf Lv An Ac I0 I1 Tz Tc sg It) sz ws t) (va_A ws sz)) 0 0 (va_A ws sz)) hI (fun ad iv gf mz mp ma mx w9 k9 h9 f_0_0 f_0_1 f_0_2 f_0_3 f_0_4 f_0_5 f_0_6 f_0_7 f_0_8 f_0_9 f_0_10 f_0_11 eq_0_0 eq_0_1 eq_0_2 eq_0_3 eq_0_4 eq_0_5 eq_0_6 eq_0_7 eq_0_8 eq_0_9 eq_0_10 eq_0_11 eq_0_12 eq_0_13 hI0 => ?_)
  subst eq_0_0
  subst eq_0_1
  obtain rfl : mz = zt := eq_0_2.symm
  subst eq_0_3
  subst eq_0_4
  subst eq_0_5
  obtain rfl : ma = An := eq_0_6.symm
  subst eq_0_7
  subst eq_0_8
  subst eq_0_9
  obtain rfl : mx = Tz := eq_0_10.symm
  subst eq_0_11
  subst eq_0_12
  subst eq_0_13
  exact wd_PPi (post := fun r => r = (a_sack (m38 (gf 3)) a0 a1)) (cs := [[(xo_8_rrriirrriiiiiiirrirrrrri mo (ad 0) (ad 1) (ad 2) (iv 0) (iv 1) (ad 3) (ad 4) (ad 5) (nI mz) (iv 2) (nI mp) (iv 3) (iv 4) (iv 5) (iv 6) (ad 6) (ad 7) (nI ma) (ad 8) (ad 9) (ad 10) (ad 11) (ad 12) (nI mx))], [(xI (ad 3) cI 38 (gf 3))]]) (rs := [[(xI (ad 0) cI 8 (gf 0))], [(xI (ad 1) cI 8 (gf 1))], [(xI (ad 2) cI 320 (gf 2))], [(xI (ad 4) cI 40 (gf 4))], [(xI (ad 5) cI 120 (gf 5))], [(xI (ad 6) cI 38 (gf 6))], [(xI (ad 7) cI 912 (gf 7))], [(xI (ad 8) cI 38 (gf 8))], [(xI (ad 9) cI 16 (gf 9))], [(xI (ad 10) cZ 2 (gf 10))], [(xI (ad 11) cI 76 (gf 11))], [(xI (ad 12) cI 16 (gf 12))]]) (r_X8_sack l dC dI cI cZ cL cJ mo (ad 0) (ad 1) (ad 2) (ad 3) (ad 4) (ad 5) (ad 6) (ad 7) (ad 8) (ad 9) (ad 10) (ad 11) (ad 12) (iv 0) (iv 1) (iv 2) (iv 3) (iv 4) (iv 5) (iv 6) mz mp ma mx (gf 3) w9 k9 h9 a0 a1 (by first | with_reducible assumption | assumption) (by first | with_reducible assumption | assumption) (by first | with_reducible assumption | assumption) (by first | with_reducible assumption | assumption)) rfl (pmB [0, 4, 1, 2, 3, 5, 6, 7, 8, 9, 10, 11, 12, 13] 14 rfl (by decide +kernel) rfl) hI0 (fun r h => h)
set_option maxHeartbeats 4000000 in
set_option maxRecDepth 100000 in
theorem w_X8_share (l : Launch) (dC : Nat → ClassId) (dI : Nat → Nat → Nat) (cI cZ cL cJ : ClassId) (sz : Nat) (mo : Nat) (Rl : Nat → Int32) (Rn : Nat → Int32) (zt : Nat) (Tb : Nat → Int32) (lf : Int32) (Lv : Nat → Int32) (An : Nat) (Ac : Nat → Nat → Int32) (I0 : Nat → Int32) (I1 : Nat → Int32) (Tz : Nat) (Tc : Nat → Int32) (sg : Int32) (It : Nat → Nat → Int32) (ws : va_W) (a0 a1 : Int32)  (hI : ISM cI cZ cL cJ mo Rl Rn zt Tb lf Lv An Ac I0 I1 Tz Tc sg It ws) : Met l yX8_share wsX8_share ({ frames := 2, cells := 0, slots := 0, locals := 46 }) (va_Pc [.ref mo, .int a0, .int a1] (wpx dC dI [(cI, .int), (cZ, .boolean), (cL, .object RX3), (cJ, .array .int)] sz ws)) (va_Qi (fun r (_ : Unit) => r = a_shr Lv a0 a1) (fun _ t => wox dC dI (ISM cI cZ cL cJ mo Rl Rn zt Tb lf Lv An Ac I0 I1 Tz Tc sg It) sz ws t) (va_A ws sz)) 0 0 (va_A ws sz) := by
  refine ISM_el (P := fun (ws : va_W) => Met l yX8_share wsX8_share ({ frames := 2, cells := 0, slots := 0, locals := 46 }) (va_Pc [.ref mo, .int a0, .int a1] (wpx dC dI [(cI, .int), (cZ, .boolean), (cL, .object RX3), (cJ, .array .int)] sz ws)) (va_Qi (fun r (_ : Unit) => r = a_shr Lv a0 a1) (fun _ t => wox dC dI (ISM cI cZ cL cJ mo Rl Rn zt Tb lf Lv An Ac I0 I1 Tz Tc sg It) sz ws t) (va_A ws sz)) 0 0 (va_A ws sz)) hI (fun ad iv gf mz mp ma mx w9 k9 h9 f_0_0 f_0_1 f_0_2 f_0_3 f_0_4 f_0_5 f_0_6 f_0_7 f_0_8 f_0_9 f_0_10 f_0_11 eq_0_0 eq_0_1 eq_0_2 eq_0_3 eq_0_4 eq_0_5 eq_0_6 eq_0_7 eq_0_8 eq_0_9 eq_0_10 eq_0_11 eq_0_12 eq_0_13 hI0 => ?_)
  subst eq_0_0
  subst eq_0_1
  obtain rfl : mz = zt := eq_0_2.symm
  subst eq_0_3
  subst eq_0_4
  subst eq_0_5
  obtain rfl : ma = An := eq_0_6.symm
  subst eq_0_7
  subst eq_0_8
  subst eq_0_9
  obtain rfl : mx = Tz := eq_0_10.symm
  subst eq_0_11
  subst eq_0_12
  subst eq_0_13
  exact wd_PPi (post := fun r => r = (a_shr (m38 (gf 3)) a0 a1)) (cs := [[(xo_8_rrriirrriiiiiiirrirrrrri mo (ad 0) (ad 1) (ad 2) (iv 0) (iv 1) (ad 3) (ad 4) (ad 5) (nI mz) (iv 2) (nI mp) (iv 3) (iv 4) (iv 5) (iv 6) (ad 6) (ad 7) (nI ma) (ad 8) (ad 9) (ad 10) (ad 11) (ad 12) (nI mx))], [(xI (ad 3) cI 38 (gf 3))]]) (rs := [[(xI (ad 0) cI 8 (gf 0))], [(xI (ad 1) cI 8 (gf 1))], [(xI (ad 2) cI 320 (gf 2))], [(xI (ad 4) cI 40 (gf 4))], [(xI (ad 5) cI 120 (gf 5))], [(xI (ad 6) cI 38 (gf 6))], [(xI (ad 7) cI 912 (gf 7))], [(xI (ad 8) cI 38 (gf 8))], [(xI (ad 9) cI 16 (gf 9))], [(xI (ad 10) cZ 2 (gf 10))], [(xI (ad 11) cI 76 (gf 11))], [(xI (ad 12) cI 16 (gf 12))]]) (r_X8_share l dC dI cI cZ cL cJ mo (ad 0) (ad 1) (ad 2) (ad 3) (ad 4) (ad 5) (ad 6) (ad 7) (ad 8) (ad 9) (ad 10) (ad 11) (ad 12) (iv 0) (iv 1) (iv 2) (iv 3) (iv 4) (iv 5) (iv 6) mz mp ma mx (gf 3) w9 k9 h9 a0 a1 (by first | with_reducible assumption | assumption) (by first | with_reducible assumption | assumption) (by first | with_reducible assumption | assumption) (by first | with_reducible assumption | assumption)) rfl (pmB [0, 4, 1, 2, 3, 5, 6, 7, 8, 9, 10, 11, 12, 13] 14 rfl (by decide +kernel) rfl) hI0 (fun r h => h)
set_option maxHeartbeats 4000000 in
set_option maxRecDepth 100000 in
theorem w_X8_byTurns (l : Launch) (dC : Nat → ClassId) (dI : Nat → Nat → Nat) (cI cZ cL cJ : ClassId) (sz : Nat) (mo : Nat) (Rl : Nat → Int32) (Rn : Nat → Int32) (zt : Nat) (Tb : Nat → Int32) (lf : Int32) (Lv : Nat → Int32) (An : Nat) (Ac : Nat → Nat → Int32) (I0 : Nat → Int32) (I1 : Nat → Int32) (Tz : Nat) (Tc : Nat → Int32) (sg : Int32) (It : Nat → Nat → Int32) (ws : va_W) (a0 a1 : Int32)  (hI : ISM cI cZ cL cJ mo Rl Rn zt Tb lf Lv An Ac I0 I1 Tz Tc sg It ws) : Met l yX8_byTurns wsX8_byTurns ({ frames := 6, cells := 0, slots := 0, locals := 139 }) (va_Pc [.ref mo, .int a0, .int a1] (wpx dC dI [(cI, .int), (cZ, .boolean), (cL, .object RX3), (cJ, .array .int)] sz ws)) (va_Qi (fun r (_ : Unit) => r = a_byt Lv a0 a1) (fun _ t => wox dC dI (ISM cI cZ cL cJ mo Rl Rn zt Tb lf Lv An Ac I0 I1 Tz Tc sg It) sz ws t) (va_A ws sz)) 0 0 (va_A ws sz) := by
  refine ISM_el (P := fun (ws : va_W) => Met l yX8_byTurns wsX8_byTurns ({ frames := 6, cells := 0, slots := 0, locals := 139 }) (va_Pc [.ref mo, .int a0, .int a1] (wpx dC dI [(cI, .int), (cZ, .boolean), (cL, .object RX3), (cJ, .array .int)] sz ws)) (va_Qi (fun r (_ : Unit) => r = a_byt Lv a0 a1) (fun _ t => wox dC dI (ISM cI cZ cL cJ mo Rl Rn zt Tb lf Lv An Ac I0 I1 Tz Tc sg It) sz ws t) (va_A ws sz)) 0 0 (va_A ws sz)) hI (fun ad iv gf mz mp ma mx w9 k9 h9 f_0_0 f_0_1 f_0_2 f_0_3 f_0_4 f_0_5 f_0_6 f_0_7 f_0_8 f_0_9 f_0_10 f_0_11 eq_0_0 eq_0_1 eq_0_2 eq_0_3 eq_0_4 eq_0_5 eq_0_6 eq_0_7 eq_0_8 eq_0_9 eq_0_10 eq_0_11 eq_0_12 eq_0_13 hI0 => ?_)
  subst eq_0_0
  subst eq_0_1
  obtain rfl : mz = zt := eq_0_2.symm
  subst eq_0_3
  subst eq_0_4
  subst eq_0_5
  obtain rfl : ma = An := eq_0_6.symm
  subst eq_0_7
  subst eq_0_8
  subst eq_0_9
  obtain rfl : mx = Tz := eq_0_10.symm
  subst eq_0_11
  subst eq_0_12
  subst eq_0_13
  refine wd_Bi (cs := [[(xo_8_rrriirrriiiiiiirrirrrrri mo (ad 0) (ad 1) (ad 2) (iv 0) (iv 1) (ad 3) (ad 4) (ad 5) (nI mz) (iv 2) (nI mp) (iv 3) (iv 4) (iv 5) (iv 6) (ad 6) (ad 7) (nI ma) (ad 8) (ad 9) (ad 10) (ad 11) (ad 12) (nI mx))], [(xI (ad 3) cI 38 (gf 3))], [(xI (ad 8) cI 38 (gf 8))], [(xI (ad 9) cI 16 (gf 9))]]) (rs := [[(xI (ad 0) cI 8 (gf 0))], [(xI (ad 1) cI 8 (gf 1))], [(xI (ad 2) cI 320 (gf 2))], [(xI (ad 4) cI 40 (gf 4))], [(xI (ad 5) cI 120 (gf 5))], [(xI (ad 6) cI 38 (gf 6))], [(xI (ad 7) cI 912 (gf 7))], [(xI (ad 10) cZ 2 (gf 10))], [(xI (ad 11) cI 76 (gf 11))], [(xI (ad 12) cI 16 (gf 12))]]) (r_X8_byTurns l dC dI cI cZ cL cJ sz mo (ad 0) (ad 1) (ad 2) (ad 3) (ad 4) (ad 5) (ad 6) (ad 7) (ad 8) (ad 9) (ad 10) (ad 11) (ad 12) (iv 0) (iv 1) (iv 2) (iv 3) (iv 4) (iv 5) (iv 6) mz mp ma mx (gf 3) w9 k9 h9 (gf 8) (gf 9) a0 a1 (by first | with_reducible assumption | assumption) (by first | with_reducible assumption | assumption) (by first | with_reducible assumption | assumption) (by first | with_reducible assumption | assumption)) rfl (pmB [0, 4, 9, 10, 1, 2, 3, 5, 6, 7, 8, 11, 12, 13] 14 rfl (by decide +kernel) rfl) ?_
  rintro t r e2 ⟨fsn, fan, fwn, hP1, hD1, g_0, g_1⟩
  exact ⟨e2, [[(xo_8_rrriirrriiiiiiirrirrrrri mo (ad 0) (ad 1) (ad 2) (iv 0) (iv 1) (ad 3) (ad 4) (ad 5) (nI mz) (iv 2) (nI mp) (iv 3) (iv 4) (iv 5) (iv 6) (ad 6) (ad 7) (nI ma) (ad 8) (ad 9) (ad 10) (ad 11) (ad 12) (nI mx))], [(xI (ad 3) cI 38 fsn)], [(xI (ad 8) cI 38 fan)], [(xI (ad 9) cI 16 fwn)]], [[(xo_8_rrriirrriiiiiiirrirrrrri mo (ad 0) (ad 1) (ad 2) (iv 0) (iv 1) (ad 3) (ad 4) (ad 5) (nI mz) (iv 2) (nI mp) (iv 3) (iv 4) (iv 5) (iv 6) (ad 6) (ad 7) (nI ma) (ad 8) (ad 9) (ad 10) (ad 11) (ad 12) (nI mx))], [(xI (ad 0) cI 8 (gf 0))], [(xI (ad 1) cI 8 (gf 1))], [(xI (ad 2) cI 320 (gf 2))], [(xI (ad 3) cI 38 fsn)], [(xI (ad 4) cI 40 (gf 4))], [(xI (ad 5) cI 120 (gf 5))], [(xI (ad 6) cI 38 (gf 6))], [(xI (ad 7) cI 912 (gf 7))], [(xI (ad 8) cI 38 fan)], [(xI (ad 9) cI 16 fwn)], [(xI (ad 10) cZ 2 (gf 10))], [(xI (ad 11) cI 76 (gf 11))], [(xI (ad 12) cI 16 (gf 12))]], hP1, hD1, ⟨_, _, _, _, _, _, _, _, _, _, _, _, _, _, rfl, ⟨ad, iv, (fun k => [(gf 0), (gf 1), (gf 2), fsn, (gf 4), (gf 5), (gf 6), (gf 7), fan, fwn, (gf 10), (gf 11), (gf 12)].getD k (fun _ => 0)), mz, mp, ma, mx, w9, k9, h9, rfl, rfl, rfl, rfl, rfl, rfl, rfl, rfl, rfl, rfl, rfl, rfl, rfl, rfl, (by first | with_reducible assumption | omega | assumption | exact (fun h_ => ⟨(congrFun g_1 0).trans (f_0_3 h_).1, (f_0_3 h_).2⟩) | (intro h_; simp_all)), f_0_1, f_0_2, (by first | with_reducible assumption | omega | assumption | exact (fun h_ => ⟨(congrFun g_1 0).trans (f_0_3 h_).1, (f_0_3 h_).2⟩) | (intro h_; simp_all)), f_0_4, f_0_5, f_0_6, f_0_7, f_0_8, f_0_9, f_0_10, f_0_11, rfl, rfl, rfl, rfl, rfl, (by first | with_reducible rfl | (symm; with_reducible assumption) | (symm; subst_vars; with_reducible exact acX_rst) | (symm; subst_vars; with_reducible exact acX_lev) | rfl | (symm; assumption) | (symm; subst_vars; exact acX_rst) | (symm; subst_vars; exact acX_lev) | (subst_vars; rfl)), rfl, rfl, rfl, rfl, rfl, rfl, rfl, rfl⟩⟩, (pmB [0, 4, 9, 10, 1, 2, 3, 5, 6, 7, 8, 11, 12, 13] 14 rfl (by decide +kernel) rfl)⟩
set_option maxHeartbeats 4000000 in
set_option maxRecDepth 100000 in
theorem w_X8_who (l : Launch) (dC : Nat → ClassId) (dI : Nat → Nat → Nat) (cI cZ cL cJ : ClassId) (sz : Nat) (mo : Nat) (Rl : Nat → Int32) (Rn : Nat → Int32) (zt : Nat) (Tb : Nat → Int32) (lf : Int32) (Lv : Nat → Int32) (An : Nat) (Ac : Nat → Nat → Int32) (I0 : Nat → Int32) (I1 : Nat → Int32) (Tz : Nat) (Tc : Nat → Int32) (sg : Int32) (It : Nat → Nat → Int32) (ws : va_W) (a0 a1 a2 a3 a4 : Int32)  (hI : ISM cI cZ cL cJ mo Rl Rn zt Tb lf Lv An Ac I0 I1 Tz Tc sg It ws) : Met l yX8_who wsX8_who ({ frames := 6, cells := 0, slots := 0, locals := 149 }) (va_Pc [.ref mo, .int a0, .int a1, .int a2, .int a3, .int a4] (wpx dC dI [(cI, .int), (cZ, .boolean), (cL, .object RX3), (cJ, .array .int)] sz ws)) (va_Qi (fun r (_ : Unit) => r = a_who Lv Rl Rn It a0 a1 a2 a3 a4) (fun _ t => wox dC dI (ISM cI cZ cL cJ mo Rl Rn zt Tb lf Lv An Ac I0 I1 Tz Tc (f_who Lv Rl Rn a0 a1 a2 a3 a4 sg) It) sz ws t) (va_A ws sz)) 0 0 (va_A ws sz) := by
  refine ISM_el (P := fun (ws : va_W) => Met l yX8_who wsX8_who ({ frames := 6, cells := 0, slots := 0, locals := 149 }) (va_Pc [.ref mo, .int a0, .int a1, .int a2, .int a3, .int a4] (wpx dC dI [(cI, .int), (cZ, .boolean), (cL, .object RX3), (cJ, .array .int)] sz ws)) (va_Qi (fun r (_ : Unit) => r = a_who Lv Rl Rn It a0 a1 a2 a3 a4) (fun _ t => wox dC dI (ISM cI cZ cL cJ mo Rl Rn zt Tb lf Lv An Ac I0 I1 Tz Tc (f_who Lv Rl Rn a0 a1 a2 a3 a4 sg) It) sz ws t) (va_A ws sz)) 0 0 (va_A ws sz)) hI (fun ad iv gf mz mp ma mx w9 k9 h9 f_0_0 f_0_1 f_0_2 f_0_3 f_0_4 f_0_5 f_0_6 f_0_7 f_0_8 f_0_9 f_0_10 f_0_11 eq_0_0 eq_0_1 eq_0_2 eq_0_3 eq_0_4 eq_0_5 eq_0_6 eq_0_7 eq_0_8 eq_0_9 eq_0_10 eq_0_11 eq_0_12 eq_0_13 hI0 => ?_)
  subst eq_0_0
  subst eq_0_1
  obtain rfl : mz = zt := eq_0_2.symm
  subst eq_0_3
  subst eq_0_4
  subst eq_0_5
  obtain rfl : ma = An := eq_0_6.symm
  subst eq_0_7
  subst eq_0_8
  subst eq_0_9
  obtain rfl : mx = Tz := eq_0_10.symm
  subst eq_0_11
  subst eq_0_12
  subst eq_0_13
  refine wd_Bi (cs := [[(xo_8_rrriirrriiiiiiirrirrrrri mo (ad 0) (ad 1) (ad 2) (iv 0) (iv 1) (ad 3) (ad 4) (ad 5) (nI mz) (iv 2) (nI mp) (iv 3) (iv 4) (iv 5) (iv 6) (ad 6) (ad 7) (nI ma) (ad 8) (ad 9) (ad 10) (ad 11) (ad 12) (nI mx))], [(xI (ad 3) cI 38 (gf 3))], [(xI (ad 8) cI 38 (gf 8))], [(xI (ad 2) cI 320 (gf 2))], [(xI (ad 1) cI 8 (gf 1))], [(xI (ad 0) cI 8 (gf 0))]]) (rs := [[(xI (ad 4) cI 40 (gf 4))], [(xI (ad 5) cI 120 (gf 5))], [(xI (ad 6) cI 38 (gf 6))], [(xI (ad 7) cI 912 (gf 7))], [(xI (ad 9) cI 16 (gf 9))], [(xI (ad 10) cZ 2 (gf 10))], [(xI (ad 11) cI 76 (gf 11))], [(xI (ad 12) cI 16 (gf 12))]]) (r_X8_who l dC dI cI cZ cL cJ sz mo (ad 0) (ad 1) (ad 2) (ad 3) (ad 4) (ad 5) (ad 6) (ad 7) (ad 8) (ad 9) (ad 10) (ad 11) (ad 12) (iv 0) (iv 1) (iv 2) (iv 3) (iv 4) (iv 5) (iv 6) mz mp ma mx (gf 3) w9 k9 h9 (gf 8) (gf 2) (gf 1) (gf 0) a0 a1 a2 a3 a4 (by first | with_reducible assumption | assumption) (by first | with_reducible assumption | assumption) (by first | with_reducible assumption | assumption) (by first | with_reducible assumption | assumption) (by first | with_reducible assumption | assumption) (by first | with_reducible assumption | assumption)) rfl (pmB [0, 4, 9, 3, 2, 1, 5, 6, 7, 8, 10, 11, 12, 13] 14 rfl (by decide +kernel) rfl) ?_
  rintro t r e2 ⟨fsn, fan, msn, hP1, hD1, g_0, g_1, g_2⟩
  exact ⟨e2, [[(xo_8_rrriirrriiiiiiirrirrrrri mo (ad 0) (ad 1) (ad 2) msn (iv 1) (ad 3) (ad 4) (ad 5) (nI mz) (iv 2) (nI mp) (iv 3) (iv 4) (iv 5) (iv 6) (ad 6) (ad 7) (nI ma) (ad 8) (ad 9) (ad 10) (ad 11) (ad 12) (nI mx))], [(xI (ad 3) cI 38 fsn)], [(xI (ad 8) cI 38 fan)], [(xI (ad 2) cI 320 (gf 2))], [(xI (ad 1) cI 8 (gf 1))], [(xI (ad 0) cI 8 (gf 0))]], [[(xo_8_rrriirrriiiiiiirrirrrrri mo (ad 0) (ad 1) (ad 2) msn (iv 1) (ad 3) (ad 4) (ad 5) (nI mz) (iv 2) (nI mp) (iv 3) (iv 4) (iv 5) (iv 6) (ad 6) (ad 7) (nI ma) (ad 8) (ad 9) (ad 10) (ad 11) (ad 12) (nI mx))], [(xI (ad 0) cI 8 (gf 0))], [(xI (ad 1) cI 8 (gf 1))], [(xI (ad 2) cI 320 (gf 2))], [(xI (ad 3) cI 38 fsn)], [(xI (ad 4) cI 40 (gf 4))], [(xI (ad 5) cI 120 (gf 5))], [(xI (ad 6) cI 38 (gf 6))], [(xI (ad 7) cI 912 (gf 7))], [(xI (ad 8) cI 38 fan)], [(xI (ad 9) cI 16 (gf 9))], [(xI (ad 10) cZ 2 (gf 10))], [(xI (ad 11) cI 76 (gf 11))], [(xI (ad 12) cI 16 (gf 12))]], hP1, hD1, ⟨_, _, _, _, _, _, _, _, _, _, _, _, _, _, rfl, ⟨ad, (fun k => [msn, (iv 1), (iv 2), (iv 3), (iv 4), (iv 5), (iv 6)].getD k 0), (fun k => [(gf 0), (gf 1), (gf 2), fsn, (gf 4), (gf 5), (gf 6), (gf 7), fan, (gf 9), (gf 10), (gf 11), (gf 12)].getD k (fun _ => 0)), mz, mp, ma, mx, w9, k9, h9, rfl, rfl, rfl, rfl, rfl, rfl, rfl, rfl, rfl, rfl, rfl, rfl, rfl, rfl, (by first | with_reducible assumption | omega | assumption | exact (fun h_ => ⟨(congrFun g_1 0).trans (f_0_3 h_).1, (f_0_3 h_).2⟩) | (intro h_; simp_all)), f_0_1, f_0_2, (by first | with_reducible assumption | omega | assumption | exact (fun h_ => ⟨(congrFun g_1 0).trans (f_0_3 h_).1, (f_0_3 h_).2⟩) | (intro h_; simp_all)), f_0_4, f_0_5, f_0_6, f_0_7, f_0_8, f_0_9, f_0_10, f_0_11, rfl, rfl, rfl, rfl, rfl, (by first | with_reducible rfl | (symm; with_reducible assumption) | (symm; subst_vars; with_reducible exact acX_rst) | (symm; subst_vars; with_reducible exact acX_lev) | rfl | (symm; assumption) | (symm; subst_vars; exact acX_rst) | (symm; subst_vars; exact acX_lev) | (subst_vars; rfl)), rfl, rfl, rfl, rfl, rfl, rfl, (by first | with_reducible rfl | (symm; with_reducible assumption) | (symm; subst_vars; with_reducible exact acX_rst) | (symm; subst_vars; with_reducible exact acX_lev) | rfl | (symm; assumption) | (symm; subst_vars; exact acX_rst) | (symm; subst_vars; exact acX_lev) | (subst_vars; rfl)), rfl⟩⟩, (pmB [0, 4, 9, 3, 2, 1, 5, 6, 7, 8, 10, 11, 12, 13] 14 rfl (by decide +kernel) rfl)⟩
set_option maxHeartbeats 4000000 in
set_option maxRecDepth 100000 in
theorem w_X8_gusts (l : Launch) (dC : Nat → ClassId) (dI : Nat → Nat → Nat) (cI cZ cL cJ : ClassId) (sz : Nat) (mo : Nat) (Rl : Nat → Int32) (Rn : Nat → Int32) (zt : Nat) (Tb : Nat → Int32) (lf : Int32) (Lv : Nat → Int32) (An : Nat) (Ac : Nat → Nat → Int32) (I0 : Nat → Int32) (I1 : Nat → Int32) (Tz : Nat) (Tc : Nat → Int32) (sg : Int32) (It : Nat → Nat → Int32) (ws : va_W) (a0 a1 a2 a3 a4 : Int32)  (hI : ISM cI cZ cL cJ mo Rl Rn zt Tb lf Lv An Ac I0 I1 Tz Tc sg It ws) : Met l yX8_gusts wsX8_gusts ({ frames := 6, cells := 0, slots := 0, locals := 149 }) (va_Pc [.ref mo, .int a0, .int a1, .int a2, .int a3, .int a4] (wpx dC dI [(cI, .int), (cZ, .boolean), (cL, .object RX3), (cJ, .array .int)] sz ws)) (va_Qi (fun r (_ : Unit) => r = a_gus Lv Rl Rn It a0 a1 a2 a3 a4) (fun _ t => wox dC dI (ISM cI cZ cL cJ mo Rl Rn zt Tb lf Lv An Ac I0 I1 Tz Tc (f_gus Lv Rl Rn a0 a1 a2 a3 a4 sg) It) sz ws t) (va_A ws sz)) 0 0 (va_A ws sz) := by
  refine ISM_el (P := fun (ws : va_W) => Met l yX8_gusts wsX8_gusts ({ frames := 6, cells := 0, slots := 0, locals := 149 }) (va_Pc [.ref mo, .int a0, .int a1, .int a2, .int a3, .int a4] (wpx dC dI [(cI, .int), (cZ, .boolean), (cL, .object RX3), (cJ, .array .int)] sz ws)) (va_Qi (fun r (_ : Unit) => r = a_gus Lv Rl Rn It a0 a1 a2 a3 a4) (fun _ t => wox dC dI (ISM cI cZ cL cJ mo Rl Rn zt Tb lf Lv An Ac I0 I1 Tz Tc (f_gus Lv Rl Rn a0 a1 a2 a3 a4 sg) It) sz ws t) (va_A ws sz)) 0 0 (va_A ws sz)) hI (fun ad iv gf mz mp ma mx w9 k9 h9 f_0_0 f_0_1 f_0_2 f_0_3 f_0_4 f_0_5 f_0_6 f_0_7 f_0_8 f_0_9 f_0_10 f_0_11 eq_0_0 eq_0_1 eq_0_2 eq_0_3 eq_0_4 eq_0_5 eq_0_6 eq_0_7 eq_0_8 eq_0_9 eq_0_10 eq_0_11 eq_0_12 eq_0_13 hI0 => ?_)
  subst eq_0_0
  subst eq_0_1
  obtain rfl : mz = zt := eq_0_2.symm
  subst eq_0_3
  subst eq_0_4
  subst eq_0_5
  obtain rfl : ma = An := eq_0_6.symm
  subst eq_0_7
  subst eq_0_8
  subst eq_0_9
  obtain rfl : mx = Tz := eq_0_10.symm
  subst eq_0_11
  subst eq_0_12
  subst eq_0_13
  refine wd_Bi (cs := [[(xo_8_rrriirrriiiiiiirrirrrrri mo (ad 0) (ad 1) (ad 2) (iv 0) (iv 1) (ad 3) (ad 4) (ad 5) (nI mz) (iv 2) (nI mp) (iv 3) (iv 4) (iv 5) (iv 6) (ad 6) (ad 7) (nI ma) (ad 8) (ad 9) (ad 10) (ad 11) (ad 12) (nI mx))], [(xI (ad 3) cI 38 (gf 3))], [(xI (ad 8) cI 38 (gf 8))], [(xI (ad 2) cI 320 (gf 2))], [(xI (ad 1) cI 8 (gf 1))], [(xI (ad 0) cI 8 (gf 0))]]) (rs := [[(xI (ad 4) cI 40 (gf 4))], [(xI (ad 5) cI 120 (gf 5))], [(xI (ad 6) cI 38 (gf 6))], [(xI (ad 7) cI 912 (gf 7))], [(xI (ad 9) cI 16 (gf 9))], [(xI (ad 10) cZ 2 (gf 10))], [(xI (ad 11) cI 76 (gf 11))], [(xI (ad 12) cI 16 (gf 12))]]) (r_X8_gusts l dC dI cI cZ cL cJ sz mo (ad 0) (ad 1) (ad 2) (ad 3) (ad 4) (ad 5) (ad 6) (ad 7) (ad 8) (ad 9) (ad 10) (ad 11) (ad 12) (iv 0) (iv 1) (iv 2) (iv 3) (iv 4) (iv 5) (iv 6) mz mp ma mx (gf 3) w9 k9 h9 (gf 8) (gf 2) (gf 1) (gf 0) a0 a1 a2 a3 a4 (by first | with_reducible assumption | assumption) (by first | with_reducible assumption | assumption) (by first | with_reducible assumption | assumption) (by first | with_reducible assumption | assumption) (by first | with_reducible assumption | assumption) (by first | with_reducible assumption | assumption)) rfl (pmB [0, 4, 9, 3, 2, 1, 5, 6, 7, 8, 10, 11, 12, 13] 14 rfl (by decide +kernel) rfl) ?_
  rintro t r e2 ⟨fsn, fan, msn, hP1, hD1, g_0, g_1, g_2⟩
  exact ⟨e2, [[(xo_8_rrriirrriiiiiiirrirrrrri mo (ad 0) (ad 1) (ad 2) msn (iv 1) (ad 3) (ad 4) (ad 5) (nI mz) (iv 2) (nI mp) (iv 3) (iv 4) (iv 5) (iv 6) (ad 6) (ad 7) (nI ma) (ad 8) (ad 9) (ad 10) (ad 11) (ad 12) (nI mx))], [(xI (ad 3) cI 38 fsn)], [(xI (ad 8) cI 38 fan)], [(xI (ad 2) cI 320 (gf 2))], [(xI (ad 1) cI 8 (gf 1))], [(xI (ad 0) cI 8 (gf 0))]], [[(xo_8_rrriirrriiiiiiirrirrrrri mo (ad 0) (ad 1) (ad 2) msn (iv 1) (ad 3) (ad 4) (ad 5) (nI mz) (iv 2) (nI mp) (iv 3) (iv 4) (iv 5) (iv 6) (ad 6) (ad 7) (nI ma) (ad 8) (ad 9) (ad 10) (ad 11) (ad 12) (nI mx))], [(xI (ad 0) cI 8 (gf 0))], [(xI (ad 1) cI 8 (gf 1))], [(xI (ad 2) cI 320 (gf 2))], [(xI (ad 3) cI 38 fsn)], [(xI (ad 4) cI 40 (gf 4))], [(xI (ad 5) cI 120 (gf 5))], [(xI (ad 6) cI 38 (gf 6))], [(xI (ad 7) cI 912 (gf 7))], [(xI (ad 8) cI 38 fan)], [(xI (ad 9) cI 16 (gf 9))], [(xI (ad 10) cZ 2 (gf 10))], [(xI (ad 11) cI 76 (gf 11))], [(xI (ad 12) cI 16 (gf 12))]], hP1, hD1, ⟨_, _, _, _, _, _, _, _, _, _, _, _, _, _, rfl, ⟨ad, (fun k => [msn, (iv 1), (iv 2), (iv 3), (iv 4), (iv 5), (iv 6)].getD k 0), (fun k => [(gf 0), (gf 1), (gf 2), fsn, (gf 4), (gf 5), (gf 6), (gf 7), fan, (gf 9), (gf 10), (gf 11), (gf 12)].getD k (fun _ => 0)), mz, mp, ma, mx, w9, k9, h9, rfl, rfl, rfl, rfl, rfl, rfl, rfl, rfl, rfl, rfl, rfl, rfl, rfl, rfl, (by first | with_reducible assumption | omega | assumption | exact (fun h_ => ⟨(congrFun g_1 0).trans (f_0_3 h_).1, (f_0_3 h_).2⟩) | (intro h_; simp_all)), f_0_1, f_0_2, (by first | with_reducible assumption | omega | assumption | exact (fun h_ => ⟨(congrFun g_1 0).trans (f_0_3 h_).1, (f_0_3 h_).2⟩) | (intro h_; simp_all)), f_0_4, f_0_5, f_0_6, f_0_7, f_0_8, f_0_9, f_0_10, f_0_11, rfl, rfl, rfl, rfl, rfl, (by first | with_reducible rfl | (symm; with_reducible assumption) | (symm; subst_vars; with_reducible exact acX_rst) | (symm; subst_vars; with_reducible exact acX_lev) | rfl | (symm; assumption) | (symm; subst_vars; exact acX_rst) | (symm; subst_vars; exact acX_lev) | (subst_vars; rfl)), rfl, rfl, rfl, rfl, rfl, rfl, (by first | with_reducible rfl | (symm; with_reducible assumption) | (symm; subst_vars; with_reducible exact acX_rst) | (symm; subst_vars; with_reducible exact acX_lev) | rfl | (symm; assumption) | (symm; subst_vars; exact acX_rst) | (symm; subst_vars; exact acX_lev) | (subst_vars; rfl)), rfl⟩⟩, (pmB [0, 4, 9, 3, 2, 1, 5, 6, 7, 8, 10, 11, 12, 13] 14 rfl (by decide +kernel) rfl)⟩
set_option maxHeartbeats 4000000 in
set_option maxRecDepth 100000 in
theorem w_X8_calm (l : Launch) (dC : Nat → ClassId) (dI : Nat → Nat → Nat) (cI cZ cL cJ : ClassId) (sz : Nat) (mo : Nat) (Rl : Nat → Int32) (Rn : Nat → Int32) (zt : Nat) (Tb : Nat → Int32) (lf : Int32) (Lv : Nat → Int32) (An : Nat) (Ac : Nat → Nat → Int32) (I0 : Nat → Int32) (I1 : Nat → Int32) (Tz : Nat) (Tc : Nat → Int32) (sg : Int32) (It : Nat → Nat → Int32) (ws : va_W) (a0 a1 a2 a3 : Int32)  (hI : ISM cI cZ cL cJ mo Rl Rn zt Tb lf Lv An Ac I0 I1 Tz Tc sg It ws) : Met l yX8_calm wsX8_calm ({ frames := 5, cells := 0, slots := 0, locals := 117 }) (va_Pc [.ref mo, .int a0, .int a1, .int a2, .int a3] (wpx dC dI [(cI, .int), (cZ, .boolean), (cL, .object RX3), (cJ, .array .int)] sz ws)) (va_Ql (fun r (_ : Unit) => r = a_clm Lv a0 a1 a2 a3) (fun _ t => wox dC dI (ISM cI cZ cL cJ mo Rl Rn zt Tb lf Lv An Ac I0 I1 Tz Tc sg It) sz ws t) (va_A ws sz)) 0 0 (va_A ws sz) := by
  refine ISM_el (P := fun (ws : va_W) => Met l yX8_calm wsX8_calm ({ frames := 5, cells := 0, slots := 0, locals := 117 }) (va_Pc [.ref mo, .int a0, .int a1, .int a2, .int a3] (wpx dC dI [(cI, .int), (cZ, .boolean), (cL, .object RX3), (cJ, .array .int)] sz ws)) (va_Ql (fun r (_ : Unit) => r = a_clm Lv a0 a1 a2 a3) (fun _ t => wox dC dI (ISM cI cZ cL cJ mo Rl Rn zt Tb lf Lv An Ac I0 I1 Tz Tc sg It) sz ws t) (va_A ws sz)) 0 0 (va_A ws sz)) hI (fun ad iv gf mz mp ma mx w9 k9 h9 f_0_0 f_0_1 f_0_2 f_0_3 f_0_4 f_0_5 f_0_6 f_0_7 f_0_8 f_0_9 f_0_10 f_0_11 eq_0_0 eq_0_1 eq_0_2 eq_0_3 eq_0_4 eq_0_5 eq_0_6 eq_0_7 eq_0_8 eq_0_9 eq_0_10 eq_0_11 eq_0_12 eq_0_13 hI0 => ?_)
  subst eq_0_0
  subst eq_0_1
  obtain rfl : mz = zt := eq_0_2.symm
  subst eq_0_3
  subst eq_0_4
  subst eq_0_5
  obtain rfl : ma = An := eq_0_6.symm
  subst eq_0_7
  subst eq_0_8
  subst eq_0_9
  obtain rfl : mx = Tz := eq_0_10.symm
  subst eq_0_11
  subst eq_0_12
  subst eq_0_13
  refine wd_Bl (cs := [[(xo_8_rrriirrriiiiiiirrirrrrri mo (ad 0) (ad 1) (ad 2) (iv 0) (iv 1) (ad 3) (ad 4) (ad 5) (nI mz) (iv 2) (nI mp) (iv 3) (iv 4) (iv 5) (iv 6) (ad 6) (ad 7) (nI ma) (ad 8) (ad 9) (ad 10) (ad 11) (ad 12) (nI mx))], [(xI (ad 3) cI 38 (gf 3))], [(xI (ad 8) cI 38 (gf 8))]]) (rs := [[(xI (ad 0) cI 8 (gf 0))], [(xI (ad 1) cI 8 (gf 1))], [(xI (ad 2) cI 320 (gf 2))], [(xI (ad 4) cI 40 (gf 4))], [(xI (ad 5) cI 120 (gf 5))], [(xI (ad 6) cI 38 (gf 6))], [(xI (ad 7) cI 912 (gf 7))], [(xI (ad 9) cI 16 (gf 9))], [(xI (ad 10) cZ 2 (gf 10))], [(xI (ad 11) cI 76 (gf 11))], [(xI (ad 12) cI 16 (gf 12))]]) (r_X8_calm l dC dI cI cZ cL cJ sz mo (ad 0) (ad 1) (ad 2) (ad 3) (ad 4) (ad 5) (ad 6) (ad 7) (ad 8) (ad 9) (ad 10) (ad 11) (ad 12) (iv 0) (iv 1) (iv 2) (iv 3) (iv 4) (iv 5) (iv 6) mz mp ma mx (gf 3) w9 k9 h9 (gf 8) a0 a1 a2 a3 (by first | with_reducible assumption | assumption) (by first | with_reducible assumption | assumption) (by first | with_reducible assumption | assumption) (by first | with_reducible assumption | assumption)) rfl (pmB [0, 4, 9, 1, 2, 3, 5, 6, 7, 8, 10, 11, 12, 13] 14 rfl (by decide +kernel) rfl) ?_
  rintro t r e2 ⟨fsn, fan, hP1, hD1, g_0, g_1⟩
  exact ⟨e2, [[(xo_8_rrriirrriiiiiiirrirrrrri mo (ad 0) (ad 1) (ad 2) (iv 0) (iv 1) (ad 3) (ad 4) (ad 5) (nI mz) (iv 2) (nI mp) (iv 3) (iv 4) (iv 5) (iv 6) (ad 6) (ad 7) (nI ma) (ad 8) (ad 9) (ad 10) (ad 11) (ad 12) (nI mx))], [(xI (ad 3) cI 38 fsn)], [(xI (ad 8) cI 38 fan)]], [[(xo_8_rrriirrriiiiiiirrirrrrri mo (ad 0) (ad 1) (ad 2) (iv 0) (iv 1) (ad 3) (ad 4) (ad 5) (nI mz) (iv 2) (nI mp) (iv 3) (iv 4) (iv 5) (iv 6) (ad 6) (ad 7) (nI ma) (ad 8) (ad 9) (ad 10) (ad 11) (ad 12) (nI mx))], [(xI (ad 0) cI 8 (gf 0))], [(xI (ad 1) cI 8 (gf 1))], [(xI (ad 2) cI 320 (gf 2))], [(xI (ad 3) cI 38 fsn)], [(xI (ad 4) cI 40 (gf 4))], [(xI (ad 5) cI 120 (gf 5))], [(xI (ad 6) cI 38 (gf 6))], [(xI (ad 7) cI 912 (gf 7))], [(xI (ad 8) cI 38 fan)], [(xI (ad 9) cI 16 (gf 9))], [(xI (ad 10) cZ 2 (gf 10))], [(xI (ad 11) cI 76 (gf 11))], [(xI (ad 12) cI 16 (gf 12))]], hP1, hD1, ⟨_, _, _, _, _, _, _, _, _, _, _, _, _, _, rfl, ⟨ad, iv, (fun k => [(gf 0), (gf 1), (gf 2), fsn, (gf 4), (gf 5), (gf 6), (gf 7), fan, (gf 9), (gf 10), (gf 11), (gf 12)].getD k (fun _ => 0)), mz, mp, ma, mx, w9, k9, h9, rfl, rfl, rfl, rfl, rfl, rfl, rfl, rfl, rfl, rfl, rfl, rfl, rfl, rfl, (by first | with_reducible assumption | omega | assumption | exact (fun h_ => ⟨(congrFun g_1 0).trans (f_0_3 h_).1, (f_0_3 h_).2⟩) | (intro h_; simp_all)), f_0_1, f_0_2, (by first | with_reducible assumption | omega | assumption | exact (fun h_ => ⟨(congrFun g_1 0).trans (f_0_3 h_).1, (f_0_3 h_).2⟩) | (intro h_; simp_all)), f_0_4, f_0_5, f_0_6, f_0_7, f_0_8, f_0_9, f_0_10, f_0_11, rfl, rfl, rfl, rfl, rfl, (by first | with_reducible rfl | (symm; with_reducible assumption) | (symm; subst_vars; with_reducible exact acX_rst) | (symm; subst_vars; with_reducible exact acX_lev) | rfl | (symm; assumption) | (symm; subst_vars; exact acX_rst) | (symm; subst_vars; exact acX_lev) | (subst_vars; rfl)), rfl, rfl, rfl, rfl, rfl, rfl, rfl, rfl⟩⟩, (pmB [0, 4, 9, 1, 2, 3, 5, 6, 7, 8, 10, 11, 12, 13] 14 rfl (by decide +kernel) rfl)⟩
set_option maxHeartbeats 4000000 in
set_option maxRecDepth 100000 in
theorem w_X8_drawn (l : Launch) (dC : Nat → ClassId) (dI : Nat → Nat → Nat) (cI cZ cL cJ : ClassId) (sz : Nat) (mo : Nat) (Rl : Nat → Int32) (Rn : Nat → Int32) (zt : Nat) (Tb : Nat → Int32) (lf : Int32) (Lv : Nat → Int32) (An : Nat) (Ac : Nat → Nat → Int32) (I0 : Nat → Int32) (I1 : Nat → Int32) (Tz : Nat) (Tc : Nat → Int32) (sg : Int32) (It : Nat → Nat → Int32) (ws : va_W) (a0 a1 a2 : Int32)  (hI : ISM cI cZ cL cJ mo Rl Rn zt Tb lf Lv An Ac I0 I1 Tz Tc sg It ws) : Met l yX8_drawn wsX8_drawn ({ frames := 4, cells := 0, slots := 0, locals := 95 }) (va_Pc [.ref mo, .int a0, .int a1, .int a2] (wpx dC dI [(cI, .int), (cZ, .boolean), (cL, .object RX3), (cJ, .array .int)] sz ws)) (va_Qi (fun r (_ : Unit) => True) (fun _ t => wox dC dI (ISM cI cZ cL cJ mo Rl Rn zt Tb lf Lv An Ac I0 I1 Tz Tc sg It) sz ws t) (va_A ws sz)) 0 0 (va_A ws sz) := by
  refine ISM_el (P := fun (ws : va_W) => Met l yX8_drawn wsX8_drawn ({ frames := 4, cells := 0, slots := 0, locals := 95 }) (va_Pc [.ref mo, .int a0, .int a1, .int a2] (wpx dC dI [(cI, .int), (cZ, .boolean), (cL, .object RX3), (cJ, .array .int)] sz ws)) (va_Qi (fun r (_ : Unit) => True) (fun _ t => wox dC dI (ISM cI cZ cL cJ mo Rl Rn zt Tb lf Lv An Ac I0 I1 Tz Tc sg It) sz ws t) (va_A ws sz)) 0 0 (va_A ws sz)) hI (fun ad iv gf mz mp ma mx w9 k9 h9 f_0_0 f_0_1 f_0_2 f_0_3 f_0_4 f_0_5 f_0_6 f_0_7 f_0_8 f_0_9 f_0_10 f_0_11 eq_0_0 eq_0_1 eq_0_2 eq_0_3 eq_0_4 eq_0_5 eq_0_6 eq_0_7 eq_0_8 eq_0_9 eq_0_10 eq_0_11 eq_0_12 eq_0_13 hI0 => ?_)
  subst eq_0_0
  subst eq_0_1
  obtain rfl : mz = zt := eq_0_2.symm
  subst eq_0_3
  subst eq_0_4
  subst eq_0_5
  obtain rfl : ma = An := eq_0_6.symm
  subst eq_0_7
  subst eq_0_8
  subst eq_0_9
  obtain rfl : mx = Tz := eq_0_10.symm
  subst eq_0_11
  subst eq_0_12
  subst eq_0_13
  refine wd_Bi (cs := [[(xo_8_rrriirrriiiiiiirrirrrrri mo (ad 0) (ad 1) (ad 2) (iv 0) (iv 1) (ad 3) (ad 4) (ad 5) (nI mz) (iv 2) (nI mp) (iv 3) (iv 4) (iv 5) (iv 6) (ad 6) (ad 7) (nI ma) (ad 8) (ad 9) (ad 10) (ad 11) (ad 12) (nI mx))], [(xI (ad 3) cI 38 (gf 3))], [(xI (ad 8) cI 38 (gf 8))]]) (rs := [[(xI (ad 0) cI 8 (gf 0))], [(xI (ad 1) cI 8 (gf 1))], [(xI (ad 2) cI 320 (gf 2))], [(xI (ad 4) cI 40 (gf 4))], [(xI (ad 5) cI 120 (gf 5))], [(xI (ad 6) cI 38 (gf 6))], [(xI (ad 7) cI 912 (gf 7))], [(xI (ad 9) cI 16 (gf 9))], [(xI (ad 10) cZ 2 (gf 10))], [(xI (ad 11) cI 76 (gf 11))], [(xI (ad 12) cI 16 (gf 12))]]) (r_X8_drawn l dC dI cI cZ cL cJ sz mo (ad 0) (ad 1) (ad 2) (ad 3) (ad 4) (ad 5) (ad 6) (ad 7) (ad 8) (ad 9) (ad 10) (ad 11) (ad 12) (iv 0) (iv 1) (iv 2) (iv 3) (iv 4) (iv 5) (iv 6) mz mp ma mx (gf 3) w9 k9 h9 (gf 8) a0 a1 a2 (by first | with_reducible assumption | assumption) (by first | with_reducible assumption | assumption) (by first | with_reducible assumption | assumption) (by first | with_reducible assumption | assumption)) rfl (pmB [0, 4, 9, 1, 2, 3, 5, 6, 7, 8, 10, 11, 12, 13] 14 rfl (by decide +kernel) rfl) ?_
  rintro t r e2 ⟨fsn, fan, hP1, hD1, g_0, g_1⟩
  exact ⟨trivial, [[(xo_8_rrriirrriiiiiiirrirrrrri mo (ad 0) (ad 1) (ad 2) (iv 0) (iv 1) (ad 3) (ad 4) (ad 5) (nI mz) (iv 2) (nI mp) (iv 3) (iv 4) (iv 5) (iv 6) (ad 6) (ad 7) (nI ma) (ad 8) (ad 9) (ad 10) (ad 11) (ad 12) (nI mx))], [(xI (ad 3) cI 38 fsn)], [(xI (ad 8) cI 38 fan)]], [[(xo_8_rrriirrriiiiiiirrirrrrri mo (ad 0) (ad 1) (ad 2) (iv 0) (iv 1) (ad 3) (ad 4) (ad 5) (nI mz) (iv 2) (nI mp) (iv 3) (iv 4) (iv 5) (iv 6) (ad 6) (ad 7) (nI ma) (ad 8) (ad 9) (ad 10) (ad 11) (ad 12) (nI mx))], [(xI (ad 0) cI 8 (gf 0))], [(xI (ad 1) cI 8 (gf 1))], [(xI (ad 2) cI 320 (gf 2))], [(xI (ad 3) cI 38 fsn)], [(xI (ad 4) cI 40 (gf 4))], [(xI (ad 5) cI 120 (gf 5))], [(xI (ad 6) cI 38 (gf 6))], [(xI (ad 7) cI 912 (gf 7))], [(xI (ad 8) cI 38 fan)], [(xI (ad 9) cI 16 (gf 9))], [(xI (ad 10) cZ 2 (gf 10))], [(xI (ad 11) cI 76 (gf 11))], [(xI (ad 12) cI 16 (gf 12))]], hP1, hD1, ⟨_, _, _, _, _, _, _, _, _, _, _, _, _, _, rfl, ⟨ad, iv, (fun k => [(gf 0), (gf 1), (gf 2), fsn, (gf 4), (gf 5), (gf 6), (gf 7), fan, (gf 9), (gf 10), (gf 11), (gf 12)].getD k (fun _ => 0)), mz, mp, ma, mx, w9, k9, h9, rfl, rfl, rfl, rfl, rfl, rfl, rfl, rfl, rfl, rfl, rfl, rfl, rfl, rfl, (by first | with_reducible assumption | omega | assumption | exact (fun h_ => ⟨(congrFun g_1 0).trans (f_0_3 h_).1, (f_0_3 h_).2⟩) | (intro h_; simp_all)), f_0_1, f_0_2, (by first | with_reducible assumption | omega | assumption | exact (fun h_ => ⟨(congrFun g_1 0).trans (f_0_3 h_).1, (f_0_3 h_).2⟩) | (intro h_; simp_all)), f_0_4, f_0_5, f_0_6, f_0_7, f_0_8, f_0_9, f_0_10, f_0_11, rfl, rfl, rfl, rfl, rfl, (by first | with_reducible rfl | (symm; with_reducible assumption) | (symm; subst_vars; with_reducible exact acX_rst) | (symm; subst_vars; with_reducible exact acX_lev) | rfl | (symm; assumption) | (symm; subst_vars; exact acX_rst) | (symm; subst_vars; exact acX_lev) | (subst_vars; rfl)), rfl, rfl, rfl, rfl, rfl, rfl, rfl, rfl⟩⟩, (pmB [0, 4, 9, 1, 2, 3, 5, 6, 7, 8, 10, 11, 12, 13] 14 rfl (by decide +kernel) rfl)⟩
set_option maxHeartbeats 4000000 in
set_option maxRecDepth 100000 in
theorem w_X8_image (l : Launch) (dC : Nat → ClassId) (dI : Nat → Nat → Nat) (cI cZ cL cJ : ClassId) (sz : Nat) (mo : Nat) (Rl : Nat → Int32) (Rn : Nat → Int32) (zt : Nat) (Tb : Nat → Int32) (lf : Int32) (Lv : Nat → Int32) (An : Nat) (Ac : Nat → Nat → Int32) (I0 : Nat → Int32) (I1 : Nat → Int32) (Tz : Nat) (Tc : Nat → Int32) (sg : Int32) (It : Nat → Nat → Int32) (ws : va_W) (a0 : Int32)  (hI : ISM cI cZ cL cJ mo Rl Rn zt Tb lf Lv An Ac I0 I1 Tz Tc sg It ws) : Met l yX8_image wsX8_image ({ frames := 1, cells := 0, slots := 0, locals := 25 }) (va_Pc [.ref mo, .int a0] (wpx dC dI [(cI, .int), (cZ, .boolean), (cL, .object RX3), (cJ, .array .int)] sz ws)) (va_Qi (fun r (_ : Unit) => r = a_image Lv a0) (fun _ t => wox dC dI (ISM cI cZ cL cJ mo Rl Rn zt Tb lf Lv An Ac (n_image Lv I0 a0 0) (n_image Lv I1 a0 1) Tz Tc sg It) sz ws t) (va_A ws sz)) 0 0 (va_A ws sz) := by
  refine ISM_el (P := fun (ws : va_W) => Met l yX8_image wsX8_image ({ frames := 1, cells := 0, slots := 0, locals := 25 }) (va_Pc [.ref mo, .int a0] (wpx dC dI [(cI, .int), (cZ, .boolean), (cL, .object RX3), (cJ, .array .int)] sz ws)) (va_Qi (fun r (_ : Unit) => r = a_image Lv a0) (fun _ t => wox dC dI (ISM cI cZ cL cJ mo Rl Rn zt Tb lf Lv An Ac (n_image Lv I0 a0 0) (n_image Lv I1 a0 1) Tz Tc sg It) sz ws t) (va_A ws sz)) 0 0 (va_A ws sz)) hI (fun ad iv gf mz mp ma mx w9 k9 h9 f_0_0 f_0_1 f_0_2 f_0_3 f_0_4 f_0_5 f_0_6 f_0_7 f_0_8 f_0_9 f_0_10 f_0_11 eq_0_0 eq_0_1 eq_0_2 eq_0_3 eq_0_4 eq_0_5 eq_0_6 eq_0_7 eq_0_8 eq_0_9 eq_0_10 eq_0_11 eq_0_12 eq_0_13 hI0 => ?_)
  subst eq_0_0
  subst eq_0_1
  obtain rfl : mz = zt := eq_0_2.symm
  subst eq_0_3
  subst eq_0_4
  subst eq_0_5
  obtain rfl : ma = An := eq_0_6.symm
  subst eq_0_7
  subst eq_0_8
  subst eq_0_9
  obtain rfl : mx = Tz := eq_0_10.symm
  subst eq_0_11
  subst eq_0_12
  subst eq_0_13
  refine wd_Bi (cs := [[(xo_8_rrriirrriiiiiiirrirrrrri mo (ad 0) (ad 1) (ad 2) (iv 0) (iv 1) (ad 3) (ad 4) (ad 5) (nI mz) (iv 2) (nI mp) (iv 3) (iv 4) (iv 5) (iv 6) (ad 6) (ad 7) (nI ma) (ad 8) (ad 9) (ad 10) (ad 11) (ad 12) (nI mx))], [(xI (ad 3) cI 38 (gf 3))], [(xI (ad 10) cZ 2 (gf 10))], [(xI (ad 11) cI 76 (gf 11))]]) (rs := [[(xI (ad 0) cI 8 (gf 0))], [(xI (ad 1) cI 8 (gf 1))], [(xI (ad 2) cI 320 (gf 2))], [(xI (ad 4) cI 40 (gf 4))], [(xI (ad 5) cI 120 (gf 5))], [(xI (ad 6) cI 38 (gf 6))], [(xI (ad 7) cI 912 (gf 7))], [(xI (ad 8) cI 38 (gf 8))], [(xI (ad 9) cI 16 (gf 9))], [(xI (ad 12) cI 16 (gf 12))]]) (r_X8_image l dC dI cI cZ cL cJ sz mo (ad 0) (ad 1) (ad 2) (ad 3) (ad 4) (ad 5) (ad 6) (ad 7) (ad 8) (ad 9) (ad 10) (ad 11) (ad 12) (iv 0) (iv 1) (iv 2) (iv 3) (iv 4) (iv 5) (iv 6) mz mp ma mx (gf 3) w9 k9 h9 (gf 10) (gf 11) a0 (by first | with_reducible assumption | assumption) (by first | with_reducible assumption | assumption) (by first | with_reducible assumption | assumption) (by first | with_reducible assumption | assumption) (by first | with_reducible assumption | assumption) (by first | with_reducible assumption | assumption)) rfl (pmB [0, 4, 11, 12, 1, 2, 3, 5, 6, 7, 8, 9, 10, 13] 14 rfl (by decide +kernel) rfl) ?_
  rintro t r e2 ⟨fkn, fqn, hP1, hD1, g_0, g_1, g_2, g_3⟩
  exact ⟨e2, [[(xo_8_rrriirrriiiiiiirrirrrrri mo (ad 0) (ad 1) (ad 2) (iv 0) (iv 1) (ad 3) (ad 4) (ad 5) (nI mz) (iv 2) (nI mp) (iv 3) (iv 4) (iv 5) (iv 6) (ad 6) (ad 7) (nI ma) (ad 8) (ad 9) (ad 10) (ad 11) (ad 12) (nI mx))], [(xI (ad 3) cI 38 (gf 3))], [(xI (ad 10) cZ 2 fkn)], [(xI (ad 11) cI 76 fqn)]], [[(xo_8_rrriirrriiiiiiirrirrrrri mo (ad 0) (ad 1) (ad 2) (iv 0) (iv 1) (ad 3) (ad 4) (ad 5) (nI mz) (iv 2) (nI mp) (iv 3) (iv 4) (iv 5) (iv 6) (ad 6) (ad 7) (nI ma) (ad 8) (ad 9) (ad 10) (ad 11) (ad 12) (nI mx))], [(xI (ad 0) cI 8 (gf 0))], [(xI (ad 1) cI 8 (gf 1))], [(xI (ad 2) cI 320 (gf 2))], [(xI (ad 3) cI 38 (gf 3))], [(xI (ad 4) cI 40 (gf 4))], [(xI (ad 5) cI 120 (gf 5))], [(xI (ad 6) cI 38 (gf 6))], [(xI (ad 7) cI 912 (gf 7))], [(xI (ad 8) cI 38 (gf 8))], [(xI (ad 9) cI 16 (gf 9))], [(xI (ad 10) cZ 2 fkn)], [(xI (ad 11) cI 76 fqn)], [(xI (ad 12) cI 16 (gf 12))]], hP1, hD1, ⟨_, _, _, _, _, _, _, _, _, _, _, _, _, _, rfl, ⟨ad, iv, (fun k => [(gf 0), (gf 1), (gf 2), (gf 3), (gf 4), (gf 5), (gf 6), (gf 7), (gf 8), (gf 9), fkn, fqn, (gf 12)].getD k (fun _ => 0)), mz, mp, ma, mx, w9, k9, h9, rfl, rfl, rfl, rfl, rfl, rfl, rfl, rfl, rfl, rfl, rfl, rfl, rfl, rfl, f_0_0, f_0_1, f_0_2, f_0_3, f_0_4, f_0_5, (by first | with_reducible assumption | omega | assumption | exact (fun h_ => ⟨(congrFun g_1 0).trans (f_0_3 h_).1, (f_0_3 h_).2⟩) | (intro h_; simp_all)), (by first | with_reducible assumption | omega | assumption | exact (fun h_ => ⟨(congrFun g_1 0).trans (f_0_3 h_).1, (f_0_3 h_).2⟩) | (intro h_; simp_all)), f_0_8, f_0_9, f_0_10, f_0_11, rfl, rfl, rfl, rfl, rfl, rfl, rfl, rfl, (by first | with_reducible rfl | (symm; with_reducible assumption) | (symm; subst_vars; with_reducible exact acX_rst) | (symm; subst_vars; with_reducible exact acX_lev) | rfl | (symm; assumption) | (symm; subst_vars; exact acX_rst) | (symm; subst_vars; exact acX_lev) | (subst_vars; rfl)), (by first | with_reducible rfl | (symm; with_reducible assumption) | (symm; subst_vars; with_reducible exact acX_rst) | (symm; subst_vars; with_reducible exact acX_lev) | rfl | (symm; assumption) | (symm; subst_vars; exact acX_rst) | (symm; subst_vars; exact acX_lev) | (subst_vars; rfl)), rfl, rfl, rfl, rfl⟩⟩, (pmB [0, 4, 11, 12, 1, 2, 3, 5, 6, 7, 8, 9, 10, 13] 14 rfl (by decide +kernel) rfl)⟩
set_option maxHeartbeats 4000000 in
set_option maxRecDepth 100000 in
theorem w_X8_restore (l : Launch) (dC : Nat → ClassId) (dI : Nat → Nat → Nat) (cI cZ cL cJ : ClassId) (sz : Nat) (mo : Nat) (Rl : Nat → Int32) (Rn : Nat → Int32) (zt : Nat) (Tb : Nat → Int32) (lf : Int32) (Lv : Nat → Int32) (An : Nat) (Ac : Nat → Nat → Int32) (I0 : Nat → Int32) (I1 : Nat → Int32) (Tz : Nat) (Tc : Nat → Int32) (sg : Int32) (It : Nat → Nat → Int32) (ws : va_W) (a0 : Int32)  (hI : ISM cI cZ cL cJ mo Rl Rn zt Tb lf Lv An Ac I0 I1 Tz Tc sg It ws) : Met l yX8_restore wsX8_restore ({ frames := 1, cells := 0, slots := 0, locals := 25 }) (va_Pc [.ref mo, .int a0] (wpx dC dI [(cI, .int), (cZ, .boolean), (cL, .object RX3), (cJ, .array .int)] sz ws)) (va_Qi (fun r (_ : Unit) => r = a_rst I0 I1 a0) (fun _ t => wox dC dI (ISM cI cZ cL cJ mo Rl Rn zt Tb lf (n_rst Lv I0 I1 a0) (m_rst An I0 I1 a0) (c_rst Ac I0 I1 a0) I0 I1 Tz Tc sg It) sz ws t) (va_A ws sz)) 0 0 (va_A ws sz) := by
  refine ISM_el (P := fun (ws : va_W) => Met l yX8_restore wsX8_restore ({ frames := 1, cells := 0, slots := 0, locals := 25 }) (va_Pc [.ref mo, .int a0] (wpx dC dI [(cI, .int), (cZ, .boolean), (cL, .object RX3), (cJ, .array .int)] sz ws)) (va_Qi (fun r (_ : Unit) => r = a_rst I0 I1 a0) (fun _ t => wox dC dI (ISM cI cZ cL cJ mo Rl Rn zt Tb lf (n_rst Lv I0 I1 a0) (m_rst An I0 I1 a0) (c_rst Ac I0 I1 a0) I0 I1 Tz Tc sg It) sz ws t) (va_A ws sz)) 0 0 (va_A ws sz)) hI (fun ad iv gf mz mp ma mx w9 k9 h9 f_0_0 f_0_1 f_0_2 f_0_3 f_0_4 f_0_5 f_0_6 f_0_7 f_0_8 f_0_9 f_0_10 f_0_11 eq_0_0 eq_0_1 eq_0_2 eq_0_3 eq_0_4 eq_0_5 eq_0_6 eq_0_7 eq_0_8 eq_0_9 eq_0_10 eq_0_11 eq_0_12 eq_0_13 hI0 => ?_)
  subst eq_0_0
  subst eq_0_1
  obtain rfl : mz = zt := eq_0_2.symm
  subst eq_0_3
  subst eq_0_4
  subst eq_0_5
  obtain rfl : ma = An := eq_0_6.symm
  subst eq_0_7
  subst eq_0_8
  subst eq_0_9
  obtain rfl : mx = Tz := eq_0_10.symm
  subst eq_0_11
  subst eq_0_12
  subst eq_0_13
  refine wd_Bi (cs := [[(xo_8_rrriirrriiiiiiirrirrrrri mo (ad 0) (ad 1) (ad 2) (iv 0) (iv 1) (ad 3) (ad 4) (ad 5) (nI mz) (iv 2) (nI mp) (iv 3) (iv 4) (iv 5) (iv 6) (ad 6) (ad 7) (nI ma) (ad 8) (ad 9) (ad 10) (ad 11) (ad 12) (nI mx))], [(xI (ad 3) cI 38 (gf 3))], [(xI (ad 10) cZ 2 (gf 10))], [(xI (ad 11) cI 76 (gf 11))], [(xI (ad 7) cI 912 (gf 7))]]) (rs := [[(xI (ad 0) cI 8 (gf 0))], [(xI (ad 1) cI 8 (gf 1))], [(xI (ad 2) cI 320 (gf 2))], [(xI (ad 4) cI 40 (gf 4))], [(xI (ad 5) cI 120 (gf 5))], [(xI (ad 6) cI 38 (gf 6))], [(xI (ad 8) cI 38 (gf 8))], [(xI (ad 9) cI 16 (gf 9))], [(xI (ad 12) cI 16 (gf 12))]]) (r_X8_restore l dC dI cI cZ cL cJ sz mo (ad 0) (ad 1) (ad 2) (ad 3) (ad 4) (ad 5) (ad 6) (ad 7) (ad 8) (ad 9) (ad 10) (ad 11) (ad 12) (iv 0) (iv 1) (iv 2) (iv 3) (iv 4) (iv 5) (iv 6) mz mp ma mx (gf 3) w9 k9 h9 (gf 10) (gf 11) (gf 7) a0 (by first | with_reducible assumption | assumption) (by first | with_reducible assumption | assumption) (by first | with_reducible assumption | assumption) (by first | with_reducible assumption | assumption) (by first | with_reducible assumption | assumption) (by first | with_reducible assumption | assumption) (by first | with_reducible assumption | assumption) (by first | with_reducible assumption | assumption)) rfl (pmB [0, 4, 11, 12, 8, 1, 2, 3, 5, 6, 7, 9, 10, 13] 14 rfl (by decide +kernel) rfl) ?_
  rintro t r e2 ⟨fsn, man, w9n, k9n, h9n, hP1, hD1, g_0, g_1, g_2, g_3, g_4, g_5, g_6, g_7, g_8⟩
  exact ⟨e2, [[(xo_8_rrriirrriiiiiiirrirrrrri mo (ad 0) (ad 1) (ad 2) (iv 0) (iv 1) (ad 3) (ad 4) (ad 5) (nI mz) (iv 2) (nI mp) (iv 3) (iv 4) (iv 5) (iv 6) (ad 6) (ad 7) (nI man) (ad 8) (ad 9) (ad 10) (ad 11) (ad 12) (nI mx))], [(xI (ad 3) cI 38 fsn)], [(xI (ad 10) cZ 2 (gf 10))], [(xI (ad 11) cI 76 (gf 11))], [(xI (ad 7) cI 912 (gf 7))]], [[(xo_8_rrriirrriiiiiiirrirrrrri mo (ad 0) (ad 1) (ad 2) (iv 0) (iv 1) (ad 3) (ad 4) (ad 5) (nI mz) (iv 2) (nI mp) (iv 3) (iv 4) (iv 5) (iv 6) (ad 6) (ad 7) (nI man) (ad 8) (ad 9) (ad 10) (ad 11) (ad 12) (nI mx))], [(xI (ad 0) cI 8 (gf 0))], [(xI (ad 1) cI 8 (gf 1))], [(xI (ad 2) cI 320 (gf 2))], [(xI (ad 3) cI 38 fsn)], [(xI (ad 4) cI 40 (gf 4))], [(xI (ad 5) cI 120 (gf 5))], [(xI (ad 6) cI 38 (gf 6))], [(xI (ad 7) cI 912 (gf 7))], [(xI (ad 8) cI 38 (gf 8))], [(xI (ad 9) cI 16 (gf 9))], [(xI (ad 10) cZ 2 (gf 10))], [(xI (ad 11) cI 76 (gf 11))], [(xI (ad 12) cI 16 (gf 12))]], hP1, hD1, ⟨_, _, _, _, _, _, _, _, _, _, _, _, _, _, rfl, ⟨ad, iv, (fun k => [(gf 0), (gf 1), (gf 2), fsn, (gf 4), (gf 5), (gf 6), (gf 7), (gf 8), (gf 9), (gf 10), (gf 11), (gf 12)].getD k (fun _ => 0)), mz, mp, man, mx, w9n, k9n, h9n, rfl, rfl, rfl, rfl, rfl, rfl, rfl, rfl, rfl, rfl, rfl, rfl, rfl, rfl, (by first | with_reducible assumption | omega | assumption | exact (fun h_ => ⟨(congrFun g_1 0).trans (f_0_3 h_).1, (f_0_3 h_).2⟩) | (intro h_; simp_all)), (by first | with_reducible assumption | omega | assumption | exact (fun h_ => ⟨(congrFun g_1 0).trans (f_0_3 h_).1, (f_0_3 h_).2⟩) | (intro h_; simp_all)), (by first | with_reducible assumption | omega | assumption | exact (fun h_ => ⟨(congrFun g_1 0).trans (f_0_3 h_).1, (f_0_3 h_).2⟩) | (intro h_; simp_all)), (by first | with_reducible assumption | omega | assumption | exact (fun h_ => ⟨(congrFun g_1 0).trans (f_0_3 h_).1, (f_0_3 h_).2⟩) | (intro h_; simp_all)), (by first | with_reducible assumption | omega | assumption | exact (fun h_ => ⟨(congrFun g_1 0).trans (f_0_3 h_).1, (f_0_3 h_).2⟩) | (intro h_; simp_all)), (by first | with_reducible assumption | omega | assumption | exact (fun h_ => ⟨(congrFun g_1 0).trans (f_0_3 h_).1, (f_0_3 h_).2⟩) | (intro h_; simp_all)), f_0_6, f_0_7, f_0_8, f_0_9, f_0_10, f_0_11, rfl, rfl, rfl, rfl, rfl, (by first | with_reducible rfl | (symm; with_reducible assumption) | (symm; subst_vars; with_reducible exact acX_rst) | (symm; subst_vars; with_reducible exact acX_lev) | rfl | (symm; assumption) | (symm; subst_vars; exact acX_rst) | (symm; subst_vars; exact acX_lev) | (subst_vars; rfl)), (by first | with_reducible rfl | (symm; with_reducible assumption) | (symm; subst_vars; with_reducible exact acX_rst) | (symm; subst_vars; with_reducible exact acX_lev) | rfl | (symm; assumption) | (symm; subst_vars; exact acX_rst) | (symm; subst_vars; exact acX_lev) | (subst_vars; rfl)), (by first | with_reducible rfl | (symm; with_reducible assumption) | (symm; subst_vars; with_reducible exact acX_rst) | (symm; subst_vars; with_reducible exact acX_lev) | rfl | (symm; assumption) | (symm; subst_vars; exact acX_rst) | (symm; subst_vars; exact acX_lev) | (subst_vars; rfl)), rfl, rfl, rfl, rfl, rfl, rfl⟩⟩, (pmB [0, 4, 11, 12, 8, 1, 2, 3, 5, 6, 7, 9, 10, 13] 14 rfl (by decide +kernel) rfl)⟩
set_option maxHeartbeats 4000000 in
set_option maxRecDepth 100000 in
theorem w_X8_kind (l : Launch) (dC : Nat → ClassId) (dI : Nat → Nat → Nat) (cI cZ cL cJ : ClassId) (sz : Nat) (mo : Nat) (Rl : Nat → Int32) (Rn : Nat → Int32) (zt : Nat) (Tb : Nat → Int32) (lf : Int32) (Lv : Nat → Int32) (An : Nat) (Ac : Nat → Nat → Int32) (I0 : Nat → Int32) (I1 : Nat → Int32) (Tz : Nat) (Tc : Nat → Int32) (sg : Int32) (It : Nat → Nat → Int32) (ws : va_W) (a0 : Int32)  (hI : ISM cI cZ cL cJ mo Rl Rn zt Tb lf Lv An Ac I0 I1 Tz Tc sg It ws) : Met l yX8_kind wsX8_kind ({ frames := 2, cells := 0, slots := 0, locals := 46 }) (va_Pc [.ref mo, .int a0] (wpx dC dI [(cI, .int), (cZ, .boolean), (cL, .object RX3), (cJ, .array .int)] sz ws)) (va_Qi (fun r (_ : Unit) => r = a_kind Lv a0) (fun _ t => wox dC dI (ISM cI cZ cL cJ mo Rl Rn zt Tb lf Lv An Ac I0 I1 Tz Tc sg It) sz ws t) (va_A ws sz)) 0 0 (va_A ws sz) := by
  refine ISM_el (P := fun (ws : va_W) => Met l yX8_kind wsX8_kind ({ frames := 2, cells := 0, slots := 0, locals := 46 }) (va_Pc [.ref mo, .int a0] (wpx dC dI [(cI, .int), (cZ, .boolean), (cL, .object RX3), (cJ, .array .int)] sz ws)) (va_Qi (fun r (_ : Unit) => r = a_kind Lv a0) (fun _ t => wox dC dI (ISM cI cZ cL cJ mo Rl Rn zt Tb lf Lv An Ac I0 I1 Tz Tc sg It) sz ws t) (va_A ws sz)) 0 0 (va_A ws sz)) hI (fun ad iv gf mz mp ma mx w9 k9 h9 f_0_0 f_0_1 f_0_2 f_0_3 f_0_4 f_0_5 f_0_6 f_0_7 f_0_8 f_0_9 f_0_10 f_0_11 eq_0_0 eq_0_1 eq_0_2 eq_0_3 eq_0_4 eq_0_5 eq_0_6 eq_0_7 eq_0_8 eq_0_9 eq_0_10 eq_0_11 eq_0_12 eq_0_13 hI0 => ?_)
  subst eq_0_0
  subst eq_0_1
  obtain rfl : mz = zt := eq_0_2.symm
  subst eq_0_3
  subst eq_0_4
  subst eq_0_5
  obtain rfl : ma = An := eq_0_6.symm
  subst eq_0_7
  subst eq_0_8
  subst eq_0_9
  obtain rfl : mx = Tz := eq_0_10.symm
  subst eq_0_11
  subst eq_0_12
  subst eq_0_13
  exact wd_PPi (post := fun r => r = (a_kind (m38 (gf 3)) a0)) (cs := [[(xo_8_rrriirrriiiiiiirrirrrrri mo (ad 0) (ad 1) (ad 2) (iv 0) (iv 1) (ad 3) (ad 4) (ad 5) (nI mz) (iv 2) (nI mp) (iv 3) (iv 4) (iv 5) (iv 6) (ad 6) (ad 7) (nI ma) (ad 8) (ad 9) (ad 10) (ad 11) (ad 12) (nI mx))], [(xI (ad 3) cI 38 (gf 3))]]) (rs := [[(xI (ad 0) cI 8 (gf 0))], [(xI (ad 1) cI 8 (gf 1))], [(xI (ad 2) cI 320 (gf 2))], [(xI (ad 4) cI 40 (gf 4))], [(xI (ad 5) cI 120 (gf 5))], [(xI (ad 6) cI 38 (gf 6))], [(xI (ad 7) cI 912 (gf 7))], [(xI (ad 8) cI 38 (gf 8))], [(xI (ad 9) cI 16 (gf 9))], [(xI (ad 10) cZ 2 (gf 10))], [(xI (ad 11) cI 76 (gf 11))], [(xI (ad 12) cI 16 (gf 12))]]) (r_X8_kind l dC dI cI cZ cL cJ mo (ad 0) (ad 1) (ad 2) (ad 3) (ad 4) (ad 5) (ad 6) (ad 7) (ad 8) (ad 9) (ad 10) (ad 11) (ad 12) (iv 0) (iv 1) (iv 2) (iv 3) (iv 4) (iv 5) (iv 6) mz mp ma mx (gf 3) w9 k9 h9 a0 (by first | with_reducible assumption | assumption) (by first | with_reducible assumption | assumption) (by first | with_reducible assumption | assumption) (by first | with_reducible assumption | assumption)) rfl (pmB [0, 4, 1, 2, 3, 5, 6, 7, 8, 9, 10, 11, 12, 13] 14 rfl (by decide +kernel) rfl) hI0 (fun r h => h)
set_option maxHeartbeats 4000000 in
set_option maxRecDepth 100000 in
theorem w_X8_as (l : Launch) (dC : Nat → ClassId) (dI : Nat → Nat → Nat) (cI cZ cL cJ : ClassId) (sz : Nat) (mo : Nat) (Rl : Nat → Int32) (Rn : Nat → Int32) (zt : Nat) (Tb : Nat → Int32) (lf : Int32) (Lv : Nat → Int32) (An : Nat) (Ac : Nat → Nat → Int32) (I0 : Nat → Int32) (I1 : Nat → Int32) (Tz : Nat) (Tc : Nat → Int32) (sg : Int32) (It : Nat → Nat → Int32) (ws : va_W) (a0 a1 : Int32)  (hI : ISM cI cZ cL cJ mo Rl Rn zt Tb lf Lv An Ac I0 I1 Tz Tc sg It ws) : Met l yX8_as wsX8_as ({ frames := 2, cells := 0, slots := 0, locals := 46 }) (va_Pc [.ref mo, .int a0, .int a1] (wpx dC dI [(cI, .int), (cZ, .boolean), (cL, .object RX3), (cJ, .array .int)] sz ws)) (va_Qi (fun r (_ : Unit) => r = a_as Lv a0 a1) (fun _ t => wox dC dI (ISM cI cZ cL cJ mo Rl Rn zt Tb lf Lv An Ac I0 I1 Tz Tc (f_as Lv a0 a1 sg) It) sz ws t) (va_A ws sz)) 0 0 (va_A ws sz) := by
  refine ISM_el (P := fun (ws : va_W) => Met l yX8_as wsX8_as ({ frames := 2, cells := 0, slots := 0, locals := 46 }) (va_Pc [.ref mo, .int a0, .int a1] (wpx dC dI [(cI, .int), (cZ, .boolean), (cL, .object RX3), (cJ, .array .int)] sz ws)) (va_Qi (fun r (_ : Unit) => r = a_as Lv a0 a1) (fun _ t => wox dC dI (ISM cI cZ cL cJ mo Rl Rn zt Tb lf Lv An Ac I0 I1 Tz Tc (f_as Lv a0 a1 sg) It) sz ws t) (va_A ws sz)) 0 0 (va_A ws sz)) hI (fun ad iv gf mz mp ma mx w9 k9 h9 f_0_0 f_0_1 f_0_2 f_0_3 f_0_4 f_0_5 f_0_6 f_0_7 f_0_8 f_0_9 f_0_10 f_0_11 eq_0_0 eq_0_1 eq_0_2 eq_0_3 eq_0_4 eq_0_5 eq_0_6 eq_0_7 eq_0_8 eq_0_9 eq_0_10 eq_0_11 eq_0_12 eq_0_13 hI0 => ?_)
  subst eq_0_0
  subst eq_0_1
  obtain rfl : mz = zt := eq_0_2.symm
  subst eq_0_3
  subst eq_0_4
  subst eq_0_5
  obtain rfl : ma = An := eq_0_6.symm
  subst eq_0_7
  subst eq_0_8
  subst eq_0_9
  obtain rfl : mx = Tz := eq_0_10.symm
  subst eq_0_11
  subst eq_0_12
  subst eq_0_13
  refine wd_Bi (cs := [[(xo_8_rrriirrriiiiiiirrirrrrri mo (ad 0) (ad 1) (ad 2) (iv 0) (iv 1) (ad 3) (ad 4) (ad 5) (nI mz) (iv 2) (nI mp) (iv 3) (iv 4) (iv 5) (iv 6) (ad 6) (ad 7) (nI ma) (ad 8) (ad 9) (ad 10) (ad 11) (ad 12) (nI mx))], [(xI (ad 3) cI 38 (gf 3))]]) (rs := [[(xI (ad 0) cI 8 (gf 0))], [(xI (ad 1) cI 8 (gf 1))], [(xI (ad 2) cI 320 (gf 2))], [(xI (ad 4) cI 40 (gf 4))], [(xI (ad 5) cI 120 (gf 5))], [(xI (ad 6) cI 38 (gf 6))], [(xI (ad 7) cI 912 (gf 7))], [(xI (ad 8) cI 38 (gf 8))], [(xI (ad 9) cI 16 (gf 9))], [(xI (ad 10) cZ 2 (gf 10))], [(xI (ad 11) cI 76 (gf 11))], [(xI (ad 12) cI 16 (gf 12))]]) (r_X8_as l dC dI cI cZ cL cJ sz mo (ad 0) (ad 1) (ad 2) (ad 3) (ad 4) (ad 5) (ad 6) (ad 7) (ad 8) (ad 9) (ad 10) (ad 11) (ad 12) (iv 0) (iv 1) (iv 2) (iv 3) (iv 4) (iv 5) (iv 6) mz mp ma mx (gf 3) w9 k9 h9 a0 a1 (by first | with_reducible assumption | assumption)) rfl (pmB [0, 4, 1, 2, 3, 5, 6, 7, 8, 9, 10, 11, 12, 13] 14 rfl (by decide +kernel) rfl) ?_
  rintro t r e2 ⟨msn, hP1, hD1, g_0⟩
  exact ⟨e2, [[(xo_8_rrriirrriiiiiiirrirrrrri mo (ad 0) (ad 1) (ad 2) msn (iv 1) (ad 3) (ad 4) (ad 5) (nI mz) (iv 2) (nI mp) (iv 3) (iv 4) (iv 5) (iv 6) (ad 6) (ad 7) (nI ma) (ad 8) (ad 9) (ad 10) (ad 11) (ad 12) (nI mx))], [(xI (ad 3) cI 38 (gf 3))]], [[(xo_8_rrriirrriiiiiiirrirrrrri mo (ad 0) (ad 1) (ad 2) msn (iv 1) (ad 3) (ad 4) (ad 5) (nI mz) (iv 2) (nI mp) (iv 3) (iv 4) (iv 5) (iv 6) (ad 6) (ad 7) (nI ma) (ad 8) (ad 9) (ad 10) (ad 11) (ad 12) (nI mx))], [(xI (ad 0) cI 8 (gf 0))], [(xI (ad 1) cI 8 (gf 1))], [(xI (ad 2) cI 320 (gf 2))], [(xI (ad 3) cI 38 (gf 3))], [(xI (ad 4) cI 40 (gf 4))], [(xI (ad 5) cI 120 (gf 5))], [(xI (ad 6) cI 38 (gf 6))], [(xI (ad 7) cI 912 (gf 7))], [(xI (ad 8) cI 38 (gf 8))], [(xI (ad 9) cI 16 (gf 9))], [(xI (ad 10) cZ 2 (gf 10))], [(xI (ad 11) cI 76 (gf 11))], [(xI (ad 12) cI 16 (gf 12))]], hP1, hD1, ⟨_, _, _, _, _, _, _, _, _, _, _, _, _, _, rfl, ⟨ad, (fun k => [msn, (iv 1), (iv 2), (iv 3), (iv 4), (iv 5), (iv 6)].getD k 0), gf, mz, mp, ma, mx, w9, k9, h9, rfl, rfl, rfl, rfl, rfl, rfl, rfl, rfl, rfl, rfl, rfl, rfl, rfl, rfl, f_0_0, f_0_1, f_0_2, f_0_3, f_0_4, f_0_5, f_0_6, f_0_7, f_0_8, f_0_9, f_0_10, f_0_11, rfl, rfl, rfl, rfl, rfl, rfl, rfl, rfl, rfl, rfl, rfl, rfl, (by first | with_reducible rfl | (symm; with_reducible assumption) | (symm; subst_vars; with_reducible exact acX_rst) | (symm; subst_vars; with_reducible exact acX_lev) | rfl | (symm; assumption) | (symm; subst_vars; exact acX_rst) | (symm; subst_vars; exact acX_lev) | (subst_vars; rfl)), rfl⟩⟩, (pmB [0, 4, 1, 2, 3, 5, 6, 7, 8, 9, 10, 11, 12, 13] 14 rfl (by decide +kernel) rfl)⟩
set_option maxHeartbeats 4000000 in
set_option maxRecDepth 100000 in
theorem w_X8_ask (l : Launch) (dC : Nat → ClassId) (dI : Nat → Nat → Nat) (cI cZ cL cJ : ClassId) (sz : Nat) (mo : Nat) (Rl : Nat → Int32) (Rn : Nat → Int32) (zt : Nat) (Tb : Nat → Int32) (lf : Int32) (Lv : Nat → Int32) (An : Nat) (Ac : Nat → Nat → Int32) (I0 : Nat → Int32) (I1 : Nat → Int32) (Tz : Nat) (Tc : Nat → Int32) (sg : Int32) (It : Nat → Nat → Int32) (ws : va_W) (a0 a1 : Int32)  (hI : ISM cI cZ cL cJ mo Rl Rn zt Tb lf Lv An Ac I0 I1 Tz Tc sg It ws) : Met l yX8_ask wsX8_ask ({ frames := 7, cells := 0, slots := 0, locals := 152 }) (va_Pc [.ref mo, .int a0, .int a1] (wpx dC dI [(cI, .int), (cZ, .boolean), (cL, .object RX3), (cJ, .array .int)] sz ws)) (va_Qi (fun r (_ : Unit) => r = a_ask Lv a0 a1 (Tz, Tc)) (fun _ t => wox dC dI (ISM cI cZ cL cJ mo Rl Rn zt Tb lf Lv An Ac I0 I1 (n_ask Lv a0 a1 (Tz, Tc)).1 (n_ask Lv a0 a1 (Tz, Tc)).2 sg It) sz ws t) (va_A ws sz)) 0 0 (va_A ws sz) := by
  refine ISM_el (P := fun (ws : va_W) => Met l yX8_ask wsX8_ask ({ frames := 7, cells := 0, slots := 0, locals := 152 }) (va_Pc [.ref mo, .int a0, .int a1] (wpx dC dI [(cI, .int), (cZ, .boolean), (cL, .object RX3), (cJ, .array .int)] sz ws)) (va_Qi (fun r (_ : Unit) => r = a_ask Lv a0 a1 (Tz, Tc)) (fun _ t => wox dC dI (ISM cI cZ cL cJ mo Rl Rn zt Tb lf Lv An Ac I0 I1 (n_ask Lv a0 a1 (Tz, Tc)).1 (n_ask Lv a0 a1 (Tz, Tc)).2 sg It) sz ws t) (va_A ws sz)) 0 0 (va_A ws sz)) hI (fun ad iv gf mz mp ma mx w9 k9 h9 f_0_0 f_0_1 f_0_2 f_0_3 f_0_4 f_0_5 f_0_6 f_0_7 f_0_8 f_0_9 f_0_10 f_0_11 eq_0_0 eq_0_1 eq_0_2 eq_0_3 eq_0_4 eq_0_5 eq_0_6 eq_0_7 eq_0_8 eq_0_9 eq_0_10 eq_0_11 eq_0_12 eq_0_13 hI0 => ?_)
  subst eq_0_0
  subst eq_0_1
  obtain rfl : mz = zt := eq_0_2.symm
  subst eq_0_3
  subst eq_0_4
  subst eq_0_5
  obtain rfl : ma = An := eq_0_6.symm
  subst eq_0_7
  subst eq_0_8
  subst eq_0_9
  obtain rfl : mx = Tz := eq_0_10.symm
  subst eq_0_11
  subst eq_0_12
  subst eq_0_13
  refine wd_Bi (cs := [[(xo_8_rrriirrriiiiiiirrirrrrri mo (ad 0) (ad 1) (ad 2) (iv 0) (iv 1) (ad 3) (ad 4) (ad 5) (nI mz) (iv 2) (nI mp) (iv 3) (iv 4) (iv 5) (iv 6) (ad 6) (ad 7) (nI ma) (ad 8) (ad 9) (ad 10) (ad 11) (ad 12) (nI mx))], [(xI (ad 3) cI 38 (gf 3))], [(xI (ad 12) cI 16 (gf 12))]]) (rs := [[(xI (ad 0) cI 8 (gf 0))], [(xI (ad 1) cI 8 (gf 1))], [(xI (ad 2) cI 320 (gf 2))], [(xI (ad 4) cI 40 (gf 4))], [(xI (ad 5) cI 120 (gf 5))], [(xI (ad 6) cI 38 (gf 6))], [(xI (ad 7) cI 912 (gf 7))], [(xI (ad 8) cI 38 (gf 8))], [(xI (ad 9) cI 16 (gf 9))], [(xI (ad 10) cZ 2 (gf 10))], [(xI (ad 11) cI 76 (gf 11))]]) (r_X8_ask l dC dI cI cZ cL cJ sz mo (ad 0) (ad 1) (ad 2) (ad 3) (ad 4) (ad 5) (ad 6) (ad 7) (ad 8) (ad 9) (ad 10) (ad 11) (ad 12) (iv 0) (iv 1) (iv 2) (iv 3) (iv 4) (iv 5) (iv 6) mz mp ma mx (gf 3) w9 k9 h9 (gf 12) a0 a1 (by first | with_reducible assumption | assumption) (by first | with_reducible assumption | assumption)) rfl (pmB [0, 4, 13, 1, 2, 3, 5, 6, 7, 8, 9, 10, 11, 12] 14 rfl (by decide +kernel) rfl) ?_
  rintro t r e2 ⟨mxn, fen_, hP1, hD1, g_0, g_1, g_2⟩
  exact ⟨e2, [[(xo_8_rrriirrriiiiiiirrirrrrri mo (ad 0) (ad 1) (ad 2) (iv 0) (iv 1) (ad 3) (ad 4) (ad 5) (nI mz) (iv 2) (nI mp) (iv 3) (iv 4) (iv 5) (iv 6) (ad 6) (ad 7) (nI ma) (ad 8) (ad 9) (ad 10) (ad 11) (ad 12) (nI mxn))], [(xI (ad 3) cI 38 (gf 3))], [(xI (ad 12) cI 16 fen_)]], [[(xo_8_rrriirrriiiiiiirrirrrrri mo (ad 0) (ad 1) (ad 2) (iv 0) (iv 1) (ad 3) (ad 4) (ad 5) (nI mz) (iv 2) (nI mp) (iv 3) (iv 4) (iv 5) (iv 6) (ad 6) (ad 7) (nI ma) (ad 8) (ad 9) (ad 10) (ad 11) (ad 12) (nI mxn))], [(xI (ad 0) cI 8 (gf 0))], [(xI (ad 1) cI 8 (gf 1))], [(xI (ad 2) cI 320 (gf 2))], [(xI (ad 3) cI 38 (gf 3))], [(xI (ad 4) cI 40 (gf 4))], [(xI (ad 5) cI 120 (gf 5))], [(xI (ad 6) cI 38 (gf 6))], [(xI (ad 7) cI 912 (gf 7))], [(xI (ad 8) cI 38 (gf 8))], [(xI (ad 9) cI 16 (gf 9))], [(xI (ad 10) cZ 2 (gf 10))], [(xI (ad 11) cI 76 (gf 11))], [(xI (ad 12) cI 16 fen_)]], hP1, hD1, ⟨_, _, _, _, _, _, _, _, _, _, _, _, _, _, rfl, ⟨ad, iv, (fun k => [(gf 0), (gf 1), (gf 2), (gf 3), (gf 4), (gf 5), (gf 6), (gf 7), (gf 8), (gf 9), (gf 10), (gf 11), fen_].getD k (fun _ => 0)), mz, mp, ma, mxn, w9, k9, h9, rfl, rfl, rfl, rfl, rfl, rfl, rfl, rfl, rfl, rfl, rfl, rfl, rfl, rfl, f_0_0, f_0_1, f_0_2, f_0_3, f_0_4, f_0_5, f_0_6, f_0_7, f_0_8, (by first | with_reducible assumption | omega | assumption | exact (fun h_ => ⟨(congrFun g_1 0).trans (f_0_3 h_).1, (f_0_3 h_).2⟩) | (intro h_; simp_all)), f_0_10, f_0_11, rfl, rfl, rfl, rfl, rfl, rfl, rfl, rfl, rfl, rfl, (by first | with_reducible rfl | (symm; with_reducible assumption) | (symm; subst_vars; with_reducible exact acX_rst) | (symm; subst_vars; with_reducible exact acX_lev) | rfl | (symm; assumption) | (symm; subst_vars; exact acX_rst) | (symm; subst_vars; exact acX_lev) | (subst_vars; rfl)), (by first | with_reducible rfl | (symm; with_reducible assumption) | (symm; subst_vars; with_reducible exact acX_rst) | (symm; subst_vars; with_reducible exact acX_lev) | rfl | (symm; assumption) | (symm; subst_vars; exact acX_rst) | (symm; subst_vars; exact acX_lev) | (subst_vars; rfl)), rfl, rfl⟩⟩, (pmB [0, 4, 13, 1, 2, 3, 5, 6, 7, 8, 9, 10, 11, 12] 14 rfl (by decide +kernel) rfl)⟩
set_option maxHeartbeats 4000000 in
set_option maxRecDepth 100000 in
theorem w_X8_trace (l : Launch) (dC : Nat → ClassId) (dI : Nat → Nat → Nat) (cI cZ cL cJ : ClassId) (sz : Nat) (mo : Nat) (Rl : Nat → Int32) (Rn : Nat → Int32) (zt : Nat) (Tb : Nat → Int32) (lf : Int32) (Lv : Nat → Int32) (An : Nat) (Ac : Nat → Nat → Int32) (I0 : Nat → Int32) (I1 : Nat → Int32) (Tz : Nat) (Tc : Nat → Int32) (sg : Int32) (It : Nat → Nat → Int32) (ws : va_W) (a0 : Int32)  (hI : ISM cI cZ cL cJ mo Rl Rn zt Tb lf Lv An Ac I0 I1 Tz Tc sg It ws) : Met l yX8_trace wsX8_trace ({ frames := 1, cells := 0, slots := 0, locals := 25 }) (va_Pc [.ref mo, .int a0] (wpx dC dI [(cI, .int), (cZ, .boolean), (cL, .object RX3), (cJ, .array .int)] sz ws)) (va_Qi (fun r (_ : Unit) => r = a_trc (Tz, Tc) a0) (fun _ t => wox dC dI (ISM cI cZ cL cJ mo Rl Rn zt Tb lf Lv An Ac I0 I1 Tz Tc sg It) sz ws t) (va_A ws sz)) 0 0 (va_A ws sz) := by
  refine ISM_el (P := fun (ws : va_W) => Met l yX8_trace wsX8_trace ({ frames := 1, cells := 0, slots := 0, locals := 25 }) (va_Pc [.ref mo, .int a0] (wpx dC dI [(cI, .int), (cZ, .boolean), (cL, .object RX3), (cJ, .array .int)] sz ws)) (va_Qi (fun r (_ : Unit) => r = a_trc (Tz, Tc) a0) (fun _ t => wox dC dI (ISM cI cZ cL cJ mo Rl Rn zt Tb lf Lv An Ac I0 I1 Tz Tc sg It) sz ws t) (va_A ws sz)) 0 0 (va_A ws sz)) hI (fun ad iv gf mz mp ma mx w9 k9 h9 f_0_0 f_0_1 f_0_2 f_0_3 f_0_4 f_0_5 f_0_6 f_0_7 f_0_8 f_0_9 f_0_10 f_0_11 eq_0_0 eq_0_1 eq_0_2 eq_0_3 eq_0_4 eq_0_5 eq_0_6 eq_0_7 eq_0_8 eq_0_9 eq_0_10 eq_0_11 eq_0_12 eq_0_13 hI0 => ?_)
  subst eq_0_0
  subst eq_0_1
  obtain rfl : mz = zt := eq_0_2.symm
  subst eq_0_3
  subst eq_0_4
  subst eq_0_5
  obtain rfl : ma = An := eq_0_6.symm
  subst eq_0_7
  subst eq_0_8
  subst eq_0_9
  obtain rfl : mx = Tz := eq_0_10.symm
  subst eq_0_11
  subst eq_0_12
  subst eq_0_13
  exact wd_PPi (post := fun r => r = (a_trc (mx, (gf 12)) a0)) (cs := [[(xo_8_rrriirrriiiiiiirrirrrrri mo (ad 0) (ad 1) (ad 2) (iv 0) (iv 1) (ad 3) (ad 4) (ad 5) (nI mz) (iv 2) (nI mp) (iv 3) (iv 4) (iv 5) (iv 6) (ad 6) (ad 7) (nI ma) (ad 8) (ad 9) (ad 10) (ad 11) (ad 12) (nI mx))], [(xI (ad 12) cI 16 (gf 12))]]) (rs := [[(xI (ad 0) cI 8 (gf 0))], [(xI (ad 1) cI 8 (gf 1))], [(xI (ad 2) cI 320 (gf 2))], [(xI (ad 3) cI 38 (gf 3))], [(xI (ad 4) cI 40 (gf 4))], [(xI (ad 5) cI 120 (gf 5))], [(xI (ad 6) cI 38 (gf 6))], [(xI (ad 7) cI 912 (gf 7))], [(xI (ad 8) cI 38 (gf 8))], [(xI (ad 9) cI 16 (gf 9))], [(xI (ad 10) cZ 2 (gf 10))], [(xI (ad 11) cI 76 (gf 11))]]) (r_X8_trace l dC dI cI cZ cL cJ mo (ad 0) (ad 1) (ad 2) (ad 3) (ad 4) (ad 5) (ad 6) (ad 7) (ad 8) (ad 9) (ad 10) (ad 11) (ad 12) (iv 0) (iv 1) (iv 2) (iv 3) (iv 4) (iv 5) (iv 6) mz mp ma mx (gf 12) a0 (by first | with_reducible assumption | assumption)) rfl (pmB [0, 13, 1, 2, 3, 4, 5, 6, 7, 8, 9, 10, 11, 12] 14 rfl (by decide +kernel) rfl) hI0 (fun r h => h)
set_option maxHeartbeats 4000000 in
set_option maxRecDepth 100000 in
theorem w_X8_count (l : Launch) (dC : Nat → ClassId) (dI : Nat → Nat → Nat) (cI cZ cL cJ : ClassId) (sz : Nat) (mo : Nat) (Rl : Nat → Int32) (Rn : Nat → Int32) (zt : Nat) (Tb : Nat → Int32) (lf : Int32) (Lv : Nat → Int32) (An : Nat) (Ac : Nat → Nat → Int32) (I0 : Nat → Int32) (I1 : Nat → Int32) (Tz : Nat) (Tc : Nat → Int32) (sg : Int32) (It : Nat → Nat → Int32) (ws : va_W) (a0 : Int32)  (hI : ISM cI cZ cL cJ mo Rl Rn zt Tb lf Lv An Ac I0 I1 Tz Tc sg It ws) : Met l yX8_count wsX8_count ({ frames := 1, cells := 0, slots := 0, locals := 23 }) (va_Pc [.ref mo, .int a0] (wpx dC dI [(cI, .int), (cZ, .boolean), (cL, .object RX3), (cJ, .array .int)] sz ws)) (va_Qi (fun r (_ : Unit) => r = a_count Rl Lv An zt a0) (fun _ t => wox dC dI (ISM cI cZ cL cJ mo Rl Rn zt Tb lf Lv An Ac I0 I1 Tz Tc sg It) sz ws t) (va_A ws sz)) 0 0 (va_A ws sz) := by
  refine ISM_el (P := fun (ws : va_W) => Met l yX8_count wsX8_count ({ frames := 1, cells := 0, slots := 0, locals := 23 }) (va_Pc [.ref mo, .int a0] (wpx dC dI [(cI, .int), (cZ, .boolean), (cL, .object RX3), (cJ, .array .int)] sz ws)) (va_Qi (fun r (_ : Unit) => r = a_count Rl Lv An zt a0) (fun _ t => wox dC dI (ISM cI cZ cL cJ mo Rl Rn zt Tb lf Lv An Ac I0 I1 Tz Tc sg It) sz ws t) (va_A ws sz)) 0 0 (va_A ws sz)) hI (fun ad iv gf mz mp ma mx w9 k9 h9 f_0_0 f_0_1 f_0_2 f_0_3 f_0_4 f_0_5 f_0_6 f_0_7 f_0_8 f_0_9 f_0_10 f_0_11 eq_0_0 eq_0_1 eq_0_2 eq_0_3 eq_0_4 eq_0_5 eq_0_6 eq_0_7 eq_0_8 eq_0_9 eq_0_10 eq_0_11 eq_0_12 eq_0_13 hI0 => ?_)
  subst eq_0_0
  subst eq_0_1
  obtain rfl : mz = zt := eq_0_2.symm
  subst eq_0_3
  subst eq_0_4
  subst eq_0_5
  obtain rfl : ma = An := eq_0_6.symm
  subst eq_0_7
  subst eq_0_8
  subst eq_0_9
  obtain rfl : mx = Tz := eq_0_10.symm
  subst eq_0_11
  subst eq_0_12
  subst eq_0_13
  exact wd_PPi (post := fun r => r = (a_count (mbl (gf 0) (gf 1)) (m38 (gf 3)) ma mz a0)) (cs := [[(xo_8_rrriirrriiiiiiirrirrrrri mo (ad 0) (ad 1) (ad 2) (iv 0) (iv 1) (ad 3) (ad 4) (ad 5) (nI mz) (iv 2) (nI mp) (iv 3) (iv 4) (iv 5) (iv 6) (ad 6) (ad 7) (nI ma) (ad 8) (ad 9) (ad 10) (ad 11) (ad 12) (nI mx))], [(xI (ad 3) cI 38 (gf 3))], [(xI (ad 1) cI 8 (gf 1))], [(xI (ad 0) cI 8 (gf 0))]]) (rs := [[(xI (ad 2) cI 320 (gf 2))], [(xI (ad 4) cI 40 (gf 4))], [(xI (ad 5) cI 120 (gf 5))], [(xI (ad 6) cI 38 (gf 6))], [(xI (ad 7) cI 912 (gf 7))], [(xI (ad 8) cI 38 (gf 8))], [(xI (ad 9) cI 16 (gf 9))], [(xI (ad 10) cZ 2 (gf 10))], [(xI (ad 11) cI 76 (gf 11))], [(xI (ad 12) cI 16 (gf 12))]]) (r_X8_count l dC dI cI cZ cL cJ mo (ad 0) (ad 1) (ad 2) (ad 3) (ad 4) (ad 5) (ad 6) (ad 7) (ad 8) (ad 9) (ad 10) (ad 11) (ad 12) (iv 0) (iv 1) (iv 2) (iv 3) (iv 4) (iv 5) (iv 6) mz mp ma mx (gf 3) w9 k9 h9 (gf 1) (gf 0) a0 (by first | with_reducible assumption | assumption) (by first | with_reducible assumption | assumption) (by first | with_reducible assumption | assumption) (by first | with_reducible assumption | assumption) (by first | with_reducible assumption | assumption) (by first | with_reducible assumption | assumption)) rfl (pmB [0, 4, 2, 1, 3, 5, 6, 7, 8, 9, 10, 11, 12, 13] 14 rfl (by decide +kernel) rfl) hI0 (fun r h => h)
set_option maxHeartbeats 4000000 in
set_option maxRecDepth 100000 in
theorem w_X8_status (l : Launch) (dC : Nat → ClassId) (dI : Nat → Nat → Nat) (cI cZ cL cJ : ClassId) (sz : Nat) (mo : Nat) (Rl : Nat → Int32) (Rn : Nat → Int32) (zt : Nat) (Tb : Nat → Int32) (lf : Int32) (Lv : Nat → Int32) (An : Nat) (Ac : Nat → Nat → Int32) (I0 : Nat → Int32) (I1 : Nat → Int32) (Tz : Nat) (Tc : Nat → Int32) (sg : Int32) (It : Nat → Nat → Int32) (ws : va_W)  (hI : ISM cI cZ cL cJ mo Rl Rn zt Tb lf Lv An Ac I0 I1 Tz Tc sg It ws) : Met l yX8_status wsX8_status ({ frames := 0, cells := 0, slots := 0, locals := 0 }) (va_Pc [.ref mo] (wpx dC dI [(cI, .int), (cZ, .boolean), (cL, .object RX3), (cJ, .array .int)] sz ws)) (va_Qi (fun r (_ : Unit) => r = sg) (fun _ t => wox dC dI (ISM cI cZ cL cJ mo Rl Rn zt Tb lf Lv An Ac I0 I1 Tz Tc sg It) sz ws t) (va_A ws sz)) 0 0 (va_A ws sz) := by
  refine ISM_el (P := fun (ws : va_W) => Met l yX8_status wsX8_status ({ frames := 0, cells := 0, slots := 0, locals := 0 }) (va_Pc [.ref mo] (wpx dC dI [(cI, .int), (cZ, .boolean), (cL, .object RX3), (cJ, .array .int)] sz ws)) (va_Qi (fun r (_ : Unit) => r = sg) (fun _ t => wox dC dI (ISM cI cZ cL cJ mo Rl Rn zt Tb lf Lv An Ac I0 I1 Tz Tc sg It) sz ws t) (va_A ws sz)) 0 0 (va_A ws sz)) hI (fun ad iv gf mz mp ma mx w9 k9 h9 f_0_0 f_0_1 f_0_2 f_0_3 f_0_4 f_0_5 f_0_6 f_0_7 f_0_8 f_0_9 f_0_10 f_0_11 eq_0_0 eq_0_1 eq_0_2 eq_0_3 eq_0_4 eq_0_5 eq_0_6 eq_0_7 eq_0_8 eq_0_9 eq_0_10 eq_0_11 eq_0_12 eq_0_13 hI0 => ?_)
  subst eq_0_0
  subst eq_0_1
  obtain rfl : mz = zt := eq_0_2.symm
  subst eq_0_3
  subst eq_0_4
  subst eq_0_5
  obtain rfl : ma = An := eq_0_6.symm
  subst eq_0_7
  subst eq_0_8
  subst eq_0_9
  obtain rfl : mx = Tz := eq_0_10.symm
  subst eq_0_11
  subst eq_0_12
  subst eq_0_13
  exact wd_PPi (post := fun r => r = (iv 0)) (cs := [[(xo_8_rrriirrriiiiiiirrirrrrri mo (ad 0) (ad 1) (ad 2) (iv 0) (iv 1) (ad 3) (ad 4) (ad 5) (nI mz) (iv 2) (nI mp) (iv 3) (iv 4) (iv 5) (iv 6) (ad 6) (ad 7) (nI ma) (ad 8) (ad 9) (ad 10) (ad 11) (ad 12) (nI mx))]]) (rs := [[(xI (ad 0) cI 8 (gf 0))], [(xI (ad 1) cI 8 (gf 1))], [(xI (ad 2) cI 320 (gf 2))], [(xI (ad 3) cI 38 (gf 3))], [(xI (ad 4) cI 40 (gf 4))], [(xI (ad 5) cI 120 (gf 5))], [(xI (ad 6) cI 38 (gf 6))], [(xI (ad 7) cI 912 (gf 7))], [(xI (ad 8) cI 38 (gf 8))], [(xI (ad 9) cI 16 (gf 9))], [(xI (ad 10) cZ 2 (gf 10))], [(xI (ad 11) cI 76 (gf 11))], [(xI (ad 12) cI 16 (gf 12))]]) (r_X8_status l dC dI cI cZ cL cJ mo (ad 0) (ad 1) (ad 2) (ad 3) (ad 4) (ad 5) (ad 6) (ad 7) (ad 8) (ad 9) (ad 10) (ad 11) (ad 12) (iv 0) (iv 1) (iv 2) (iv 3) (iv 4) (iv 5) (iv 6) mz mp ma mx ) rfl (pmB [0, 1, 2, 3, 4, 5, 6, 7, 8, 9, 10, 11, 12, 13] 14 rfl (by decide +kernel) rfl) hI0 (fun r h => h)
-- 75.lawdefs
/-! THE CLAIM OUT OF ONE WALK OF THE LAW'S BODY. Your part is whole_start (and what it stands on); all else here is the same for every law, but numbers. -/
noncomputable def R_law : String := "MillTalkLaw"
noncomputable def lw_P (b : Addr) (xs : List Int32) (args : Array Value) (s : State) : Prop := args = #[.ref b] ∧ s.IntsAt b xs ∧ xs.length ≤ 3072 ∧ (Jvm.Cond.and given_1 narrow_1).before args s = true
noncomputable def lw_Q (_ : Array Value) (s : State) (o : Outcome) (t : State) : Prop := o = .returned (some (.int 1)) ∧ Framed s o t [] 600000 7302250
noncomputable def lw_Z (below : List Frame) (a : Array Value) (s : State) : State → Prop := fun t => ∃ o, t.status = .running ∧ Ended t below o ∧ lw_Q a s o t
/-- the law's own end, with 1 on the stack, nothing written that was there before, its room as the claim has it -/
theorem lw_ret {p : Program} {l : Launch} {e : Env} {s : State} {m : MethodId} {below : List Frame} {meth : Method} {c : Code} {b : Nat} (hx : p.tables.exec = Jvm.exec) (hb : c.code = code) (hr : meth.sig.returnType = ret) (hlocks : meth.locks = false) {pc : Nat} {H : Heap} {ls : Array Slot} (hdg : decode code pc = .ok (.ireturn, 1)) : W p l e room_1 s m #[Value.ref b] below meth c H [] 600000 7302250 (lw_Z below #[Value.ref b] s) (F0 m pc ls [.int 1]) := by
  intro T hT X
  obtain ⟨fs, hret, hrun, hended, hW, hframe⟩ := X.leave (v := some (.int 1)) (hlocks := hlocks) (fun h => by rw [hr] at h; cases h)
  have hmeth' : T.vm.method? m = some meth := X.method'
  refine ⟨T.setFrames fs, ?_, .returned (some (.int 1)), hrun, hended, rfl, ⟨_, rfl⟩, hW, hframe⟩
  jvm_step X.here [X.here.top, hx, hb, hdg, hmeth', hr, ret, narrow_b1]
  (try refine ⟨rfl, ?_⟩); (try refine ⟨rfl, ?_⟩)
  first | (intro acts; rw [hret _ acts rfl rfl rfl]) | rw [hret _ _ rfl rfl rfl]
  exact Steps.refl _
/-- what holds at the law's entry: the machine, the code, the tables' words (any of lw_tbl by 'hts w (by decide +kernel)'), the script of L ints xs at the cell b, what the Statement gives of the start (any of its parts by flat_of_before) -/
noncomputable def lw_At (p : Program) (s : State) (m : MethodId) (meth : Method) (c : Code) (b L : Nat) (xs : Nat → Int32) : Prop :=
  p.tables.exec = Jvm.exec ∧ c.code = code ∧ meth.sig.returnType = ret ∧ c.maxLocals = 4 ∧ s.vm.findClass R_law = some m.cls ∧ (∀ w ∈ lw_tbl, w.before #[Value.ref b] s = true) ∧ va_X b L xs s s.heap ∧ b < s.heap.size ∧ meth.locks = false ∧ (Jvm.Cond.and given_1 narrow_1).before #[Value.ref b] s = true
theorem sc_in {i L j : Nat} {v : Int32} (hv : v = nI j) (hj : j < 6) (hi : 6 * i + 6 ≤ L) (hL : L ≤ 3072) : vp_in (nI (6 * i) + v) L := by
  rw [hv, nI_add]
  exact vp_in_nI (by omega) (by omega)
theorem sc_sub {L : Nat} (h : 6 ≤ L) : nI L - 6 = nI (L - 6) := by
  have e1 : nI L = nI (L - 6) + 6 := by
    rw [show (6 : Int32) = nI 6 from rfl, nI_add, show L - 6 + 6 = L by omega]
  rw [e1, Int32.add_sub_cancel]
theorem sc_go {i L : Nat} (hi : 6 * i + 6 ≤ L) (hL : L ≤ 3072) : ¬ nI L - 6 < nI (6 * i) := by
  rw [sc_sub (by omega)]
  exact nI_nlt (by omega) (by omega)
theorem sc_stop {i L : Nat} (hi : L < 6 * i + 6) (h0 : 6 * i ≤ L) (hL : L ≤ 3072) : nI L - 6 < nI (6 * i) := by
  rcases Nat.lt_or_ge L 6 with h | h
  · have h1 : nI L - nI 6 < 0 := pk_sneg (by decide) h
    have h2 : ¬ nI (6 * i) < 0 := nI_pos (by omega)
    have h3 : i = 0 := by omega
    rw [h3]
    exact h1
  · rw [sc_sub h]
    exact nI_lt (by omega) (by omega)
theorem pvL {dC : Nat → ClassId} {dI : Nat → Nat → Nat} {tys : List (ClassId × FieldType)} {s : State} {H : Heap} {A : Nat → Prop} {locs : List Loc} {ws yr : va_W} {As : List Value} {a : Nat} {C : String} {x : u_T × Nat} {fs : List Value} (ci : Nat) (hK : va_K (dC, dI) vwCl tys s) (hP : va_P (dC, dI) vwCl (ws ++ yr) H) (hD : va_D A (ws ++ yr)) (hst : stt A s s.heap) (hS : va_S A s.heap H locs) (hF : ∀ q, va_A ws H.size q → A q) (h1 : vwCl[ci]? = some (C, x)) (h2 : (ws ++ yr)[0]? = some (a, .inr (ci, fs))) : PreV s H C a (va_Pc (.ref a :: As) (wpx dC dI tys H.size ws)) As :=
  ⟨fun a U g mk q => ⟨q.1, q.2.1, q.2.2.1, va_K.moved (u := U) (U := U.calling g mk a) (Vm.Alike.refl U.vm) q.2.2.2.1, q.2.2.2.2.1, stt_same rfl q.2.2.2.2.2⟩, va_recv (ci := ci) (q0 := 0) hK hP h1 h2, fun U hU hW => ⟨rfl, by rw [hU], by rw [hU]; exact lfP hP, va_K.moved hW.alike hK, (lfD hD).weaken (fun _ _ _ _ => trivial), by rw [hU]; exact stt_warm hW (stt_narrow (stt_kept hst hS.2.1) hF)⟩⟩
theorem fr_l {A : Nat → Prop} {a b : va_W} {H0 H : Heap} {locs : List Loc} (hD : va_D A (a ++ b)) (hS : va_S A H0 H locs) (hA : ∀ q, H0.size ≤ q → A q) : ∀ q, va_A a H.size q → A q := va_freeP (X := []) (cx := []) (pl := a) (lfD hD) hS hA [] rfl
noncomputable def LCx (p : Program) (s : State) (m : MethodId) (meth : Method) (c : Code) (b L : Nat) (xs : Nat → Int32) (dC : Nat → ClassId) (dI : Nat → Nat → Nat) (cI cZ cL cJ : ClassId) (A : Nat → Prop) : Prop := p.tables.exec = Jvm.exec ∧ c.code = code ∧ meth.sig.returnType = ret ∧ c.maxLocals = 4 ∧ s.vm.findClass RL = some m.cls ∧ (∀ w ∈ wsL_law, w.before #[Value.ref b] s = true) ∧ va_X b L xs s s.heap ∧ b < s.heap.size ∧ meth.locks = false ∧ (A = fun q => s.heap.size ≤ q) ∧ (∀ q : Nat, s.heap.size ≤ q → A q) ∧ ¬ A b ∧ va_K (dC, dI) vwCl [(cI, .int), (cZ, .boolean), (cL, .object RX3), (cJ, .array .int)] s ∧ stt A s s.heap ∧ L ≤ 3072
noncomputable def LIv (dC : Nat → ClassId) (dI : Nat → Nat → Nat) (cI cZ cL cJ : ClassId) (A : Nat → Prop) (s : State) (b x mo : Nat) (i : Nat) (st : va_W × va_W) (H : Heap) (locs : List Loc) (ls : Array Slot) : Prop := (∃ (Rl : Nat → Int32) (Rn : Nat → Int32) (zt : Nat) (Tb : Nat → Int32) (lf : Int32) (Lv : Nat → Int32) (An : Nat) (Ac : Nat → Nat → Int32) (I0 : Nat → Int32) (I1 : Nat → Int32) (Tz : Nat) (Tc : Nat → Int32) (sg : Int32) (It : Nat → Nat → Int32), okS Lv An Ac I0 I1 ∧ ISX cI cZ cL cJ x Rl Rn zt Tb lf Lv An Ac I0 I1 Tz Tc sg It st.1 ∧ ISM cI cZ cL cJ mo Rl Rn zt Tb lf Lv An Ac I0 I1 Tz Tc sg It st.2) ∧ va_P (dC, dI) vwCl (st.1 ++ st.2) H ∧ va_D A (st.1 ++ st.2) ∧ va_S A s.heap H locs ∧ lv_has ls 4 [(3, .int (nI (6 * i))), (2, .ref mo), (1, .ref x), (0, .ref b)]
set_option maxHeartbeats 4000000 in
set_option maxRecDepth 100000 in
theorem isx_hd {cI cZ cL cJ : ClassId} {x : Nat} {Rl : Nat → Int32} {Rn : Nat → Int32} {zt : Nat} {Tb : Nat → Int32} {lf : Int32} {Lv : Nat → Int32} {An : Nat} {Ac : Nat → Nat → Int32} {I0 : Nat → Int32} {I1 : Nat → Int32} {Tz : Nat} {Tc : Nat → Int32} {sg : Int32} {It : Nat → Nat → Int32} {ws ys : va_W} (h : ISX cI cZ cL cJ x Rl Rn zt Tb lf Lv An Ac I0 I1 Tz Tc sg It ws) : ∃ fs : List Value, (ws ++ ys)[0]? = some (x, .inr (7, fs)) := by
  obtain ⟨_, _, _, _, _, _, _, _, _, _, _, _, _, _, _, _, _, _, _, _, _, _, _, _, _, _, _, _, _, _, _, _, _, rfl, hg, _⟩ := h
  obtain ⟨_, _, rfl, _, _⟩ := hg
  exact ⟨_, rfl⟩
set_option maxHeartbeats 4000000 in
set_option maxRecDepth 100000 in
theorem ism_hd {cI cZ cL cJ : ClassId} {mo : Nat} {Rl : Nat → Int32} {Rn : Nat → Int32} {zt : Nat} {Tb : Nat → Int32} {lf : Int32} {Lv : Nat → Int32} {An : Nat} {Ac : Nat → Nat → Int32} {I0 : Nat → Int32} {I1 : Nat → Int32} {Tz : Nat} {Tc : Nat → Int32} {sg : Int32} {It : Nat → Nat → Int32} {ws ys : va_W} (h : ISM cI cZ cL cJ mo Rl Rn zt Tb lf Lv An Ac I0 I1 Tz Tc sg It ws) : ∃ fs : List Value, (ws ++ ys)[0]? = some (mo, .inr (8, fs)) := by
  obtain ⟨_, _, _, _, _, _, _, _, _, _, _, _, _, _, rfl, hg⟩ := h
  obtain ⟨_, _, _, _, _, _, _, _, _, _, rfl, _, _, _, _, _, _, _, _, _, _, _, _, _, _, _, _, _, _, _, _, _, _, _, _, _, _, _, _, _, _, _, _, _, _, _, _, _, _, _⟩ := hg
  exact ⟨_, rfl⟩
set_option maxHeartbeats 4000000 in
set_option maxRecDepth 100000 in
theorem lw_tail {p : Program} {l : Launch} {e : Env} {s : State} {m : MethodId} {below : List Frame} {meth : Method} {c : Code} {b L : Nat} {xs : Nat → Int32} {dC : Nat → ClassId} {dI : Nat → Nat → Nat} {cI cZ cL cJ : ClassId} {A : Nat → Prop} {H : Heap} {locs : List Loc} {ls : Array Slot} {x mo i : Nat} {wx wm : va_W} (hC : LCx p s m meth c b L xs dC dI cI cZ cL cJ A) (hi : 6 * i + 6 ≤ L) (hv : LIv dC dI cI cZ cL cJ A s b x mo i (wx, wm) H locs ls) (ih : ∀ (st2 : va_W × va_W) (H2 : Heap) (locs2 : List Loc) (ls2 : Array Slot), LIv dC dI cI cZ cL cJ A s b x mo (i + 1) st2 H2 locs2 ls2 → W p l e room_1 s m #[Value.ref b] below meth c H2 locs2 277 3929 (lw_Z below #[Value.ref b] s) (F0 m 18 ls2 [])) : W p l e room_1 s m #[Value.ref b] below meth c H locs 277 3929 (lw_Z below #[Value.ref b] s) (F0 m 1357 ls []) := by
  obtain ⟨hx, hb, hr, hml, hown, hts, hX, hbl, hlocks, hAd, hA, hbA, hK, hst, hL⟩ := hC
  obtain ⟨hR, hP, hD, hS, hl⟩ := hv
  refine lv_iinc (k := 0) (v := nI (6 * (i + 1))) (lv' := [(3, .int (nI (6 * (i + 1)))), (2, .ref mo), (1, .ref x), (0, .ref b)]) hx hb dL_law_1357 hl rfl (by rw [show Int32.ofInt 6 = nI 6 from rfl, nI_add]; exact congrArg nI (by omega)) (by decide) rfl (fun ls hl => ?_)
  refine lv_goto (tgt := 18) hx hb dL_law_1360 (by decide) ?_
  exact ih (wx, wm) H locs ls ⟨hR, hP, hD, hS, hl⟩

-- 77.lawc0
set_option maxHeartbeats 4000000 in
set_option maxRecDepth 100000 in
theorem lw_c0 {p : Program} {l : Launch} {e : Env} {s : State} {m : MethodId} {below : List Frame} {meth : Method} {c : Code} {b L : Nat} {xs : Nat → Int32} {dC : Nat → ClassId} {dI : Nat → Nat → Nat} {cI cZ cL cJ : ClassId} {A : Nat → Prop} {H : Heap} {locs : List Loc} {ls : Array Slot} {x mo i : Nat} {wx wm : va_W} (hC : LCx p s m meth c b L xs dC dI cI cZ cL cJ A) (hi : 6 * i + 6 ≤ L) (hv : LIv dC dI cI cZ cL cJ A s b x mo i (wx, wm) H locs ls) (ih : ∀ (st2 : va_W × va_W) (H2 : Heap) (locs2 : List Loc) (ls2 : Array Slot), LIv dC dI cI cZ cL cJ A s b x mo (i + 1) st2 H2 locs2 ls2 → W p l e room_1 s m #[Value.ref b] below meth c H2 locs2 277 3929 (lw_Z below #[Value.ref b] s) (F0 m 18 ls2 [])) : W p l e room_1 s m #[Value.ref b] below meth c H locs 277 3929 (lw_Z below #[Value.ref b] s) (F0 m 196 ls []) := by
  have hC0 := hC
  obtain ⟨hx, hb, hr, hml, hown, hts, hX, hbl, hlocks, hAd, hA, hbA, hK, hst, hL⟩ := hC
  obtain ⟨⟨Rl, Rn, zt, Tb, lf, Lv, An, Ac, I0, I1, Tz, Tc, sg, It, hs, hIX, hIM⟩, hP, hD, hS, hl⟩ := hv
  refine lv_aload_n hx hb dL_law_196 rfl (lv_at hl 2 rfl) ?_
  refine lv_aload_n hx hb dL_law_197 rfl (lv_at hl 3 rfl) ?_
  refine lv_iload_n hx hb dL_law_198 rfl (lv_at hl 0 rfl) ?_
  refine lv_iconst (v := 1) hx hb dL_law_199 (by decide) ?_
  refine lv_iadd hx hb dL_law_200 ?_
  refine va_sld hx hb hX hbl hbA hS (sc_in (j := 1) (by decide) (by decide) hi hL) dL_law_201 ?_
  refine lv_topi (fun a_1 ea_1 => ?_)
  refine lv_aload_n hx hb dL_law_202 rfl (lv_at hl 3 rfl) ?_
  refine lv_iload_n hx hb dL_law_203 rfl (lv_at hl 0 rfl) ?_
  refine lv_iconst (v := 2) hx hb dL_law_204 (by decide) ?_
  refine lv_iadd hx hb dL_law_205 ?_
  refine va_sld hx hb hX hbl hbA hS (sc_in (j := 2) (by decide) (by decide) hi hL) dL_law_206 ?_
  refine lv_topi (fun a_2 ea_2 => ?_)
  refine lv_aload_n hx hb dL_law_207 rfl (lv_at hl 3 rfl) ?_
  refine lv_iload_n hx hb dL_law_208 rfl (lv_at hl 0 rfl) ?_
  refine lv_iconst (v := 3) hx hb dL_law_209 (by decide) ?_
  refine lv_iadd hx hb dL_law_210 ?_
  refine va_sld hx hb hX hbl hbA hS (sc_in (j := 3) (by decide) (by decide) hi hL) dL_law_211 ?_
  refine lv_topi (fun a_3 ea_3 => ?_)
  obtain ⟨fs_4, hd_4⟩ := isx_hd (ys := wm) hIX
  have hFc_4 := fr_l hD hS hA
  refine va_calli (va_runV (As := [.int a_1, .int a_2, .int a_3]) (rest := []) ⟨hx, hb, hml, hown, hts⟩ (w_X7_row l dC dI cI cZ cL cJ H.size x _ _ _ _ _ _ _ _ _ _ _ _ _ _ wx a_1 a_2 a_3 hs hIX) (cwV 3 hts gL_law_X7_row rfl rfl rfl (by decide +kernel) ⟨Nat.le_of_ble_eq_true rfl, Nat.le_of_ble_eq_true rfl⟩) (pvL 7 hK hP hD hst hS hFc_4 rfl hd_4) rfl rfl hl.1 rfl (lv_room (Nat.le_of_ble_eq_true rfl)) dL_law_212 ⟨Nat.le_of_ble_eq_true rfl, Nat.le_of_ble_eq_true rfl⟩) hS (fun q _ h => hFc_4 q h) hFc_4 (fun r_4 u_4 t_4 H1 locs ht hvm h_4 hB hz1 hk1 hS => ?_)
  obtain ⟨wx_4, hIX, hP1, hD1⟩ := hB
  rw [ht] at hP1
  obtain ⟨hP, hD⟩ := jn2 hP hD hk1 hFc_4 hP1 hD1
  generalize H1 = H at hP hS ⊢
  refine W.widen (k := 277) (n := 3929) (Nat.le_of_ble_eq_true rfl) (Nat.le_of_ble_eq_true rfl) ?_
  refine lv_pop hx hb dL_law_215 rfl ?_
  refine lv_aload_n hx hb dL_law_216 rfl (lv_at hl 1 rfl) ?_
  refine lv_aload_n hx hb dL_law_217 rfl (lv_at hl 3 rfl) ?_
  refine lv_iload_n hx hb dL_law_218 rfl (lv_at hl 0 rfl) ?_
  refine lv_iconst (v := 1) hx hb dL_law_219 (by decide) ?_
  refine lv_iadd hx hb dL_law_220 ?_
  refine va_sld hx hb hX hbl hbA hS (sc_in (j := 1) (by decide) (by decide) hi hL) dL_law_221 ?_
  rw [← ea_1]
  refine lv_aload_n hx hb dL_law_222 rfl (lv_at hl 3 rfl) ?_
  refine lv_iload_n hx hb dL_law_223 rfl (lv_at hl 0 rfl) ?_
  refine lv_iconst (v := 2) hx hb dL_law_224 (by decide) ?_
  refine lv_iadd hx hb dL_law_225 ?_
  refine va_sld hx hb hX hbl hbA hS (sc_in (j := 2) (by decide) (by decide) hi hL) dL_law_226 ?_
  rw [← ea_2]
  refine lv_aload_n hx hb dL_law_227 rfl (lv_at hl 3 rfl) ?_
  refine lv_iload_n hx hb dL_law_228 rfl (lv_at hl 0 rfl) ?_
  refine lv_iconst (v := 3) hx hb dL_law_229 (by decide) ?_
  refine lv_iadd hx hb dL_law_230 ?_
  refine va_sld hx hb hX hbl hbA hS (sc_in (j := 3) (by decide) (by decide) hi hL) dL_law_231 ?_
  rw [← ea_3]
  obtain ⟨fs_8, hd_8⟩ := ism_hd (ys := wx_4) hIM
  have hFc_8 := fr_l hD hS hA
  refine va_calli (va_runV (As := [.int a_1, .int a_2, .int a_3]) (rest := []) ⟨hx, hb, hml, hown, hts⟩ (w_X8_row l dC dI cI cZ cL cJ H.size mo _ _ _ _ _ _ _ _ _ _ _ _ _ _ wm a_1 a_2 a_3 hIM) (cwV 3 hts gL_law_X8_row rfl rfl rfl (by decide +kernel) ⟨Nat.le_of_ble_eq_true rfl, Nat.le_of_ble_eq_true rfl⟩) (pvL 8 hK hP hD hst hS hFc_8 rfl hd_8) rfl rfl hl.1 rfl (lv_room (Nat.le_of_ble_eq_true rfl)) dL_law_232 ⟨Nat.le_of_ble_eq_true rfl, Nat.le_of_ble_eq_true rfl⟩) hS (fun q _ h => hFc_8 q h) hFc_8 (fun r_8 u_8 t_8 H1 locs ht hvm h_8 hB hz1 hk1 hS => ?_)
  obtain ⟨wm_8, hIM, hP1, hD1⟩ := hB
  rw [ht] at hP1
  obtain ⟨hP, hD⟩ := jn2 hP hD hk1 hFc_8 hP1 hD1
  generalize H1 = H at hP hS ⊢
  refine W.widen (k := 277) (n := 3929) (Nat.le_of_ble_eq_true rfl) (Nat.le_of_ble_eq_true rfl) ?_
  refine lv_pop hx hb dL_law_235 rfl ?_
  refine lv_goto (tgt := 1357) hx hb dL_law_236 (by decide) ?_
  exact lw_tail hC0 hi ⟨⟨_, _, _, _, _, _, _, _, _, _, _, _, _, _, hs, hIX, hIM⟩, hP, hD, hS, hl⟩ ih

set_option maxHeartbeats 4000000 in
set_option maxRecDepth 100000 in
theorem lw_c1 {p : Program} {l : Launch} {e : Env} {s : State} {m : MethodId} {below : List Frame} {meth : Method} {c : Code} {b L : Nat} {xs : Nat → Int32} {dC : Nat → ClassId} {dI : Nat → Nat → Nat} {cI cZ cL cJ : ClassId} {A : Nat → Prop} {H : Heap} {locs : List Loc} {ls : Array Slot} {x mo i : Nat} {wx wm : va_W} (hC : LCx p s m meth c b L xs dC dI cI cZ cL cJ A) (hi : 6 * i + 6 ≤ L) (hv : LIv dC dI cI cZ cL cJ A s b x mo i (wx, wm) H locs ls) (ih : ∀ (st2 : va_W × va_W) (H2 : Heap) (locs2 : List Loc) (ls2 : Array Slot), LIv dC dI cI cZ cL cJ A s b x mo (i + 1) st2 H2 locs2 ls2 → W p l e room_1 s m #[Value.ref b] below meth c H2 locs2 277 3929 (lw_Z below #[Value.ref b] s) (F0 m 18 ls2 [])) : W p l e room_1 s m #[Value.ref b] below meth c H locs 277 3929 (lw_Z below #[Value.ref b] s) (F0 m 239 ls []) := by
  have hC0 := hC
  obtain ⟨hx, hb, hr, hml, hown, hts, hX, hbl, hlocks, hAd, hA, hbA, hK, hst, hL⟩ := hC
  obtain ⟨⟨Rl, Rn, zt, Tb, lf, Lv, An, Ac, I0, I1, Tz, Tc, sg, It, hs, hIX, hIM⟩, hP, hD, hS, hl⟩ := hv
  refine lv_aload_n hx hb dL_law_239 rfl (lv_at hl 2 rfl) ?_
  refine lv_aload_n hx hb dL_law_240 rfl (lv_at hl 3 rfl) ?_
  refine lv_iload_n hx hb dL_law_241 rfl (lv_at hl 0 rfl) ?_
  refine lv_iconst (v := 1) hx hb dL_law_242 (by decide) ?_
  refine lv_iadd hx hb dL_law_243 ?_
  refine va_sld hx hb hX hbl hbA hS (sc_in (j := 1) (by decide) (by decide) hi hL) dL_law_244 ?_
  refine lv_topi (fun a_1 ea_1 => ?_)
  refine lv_aload_n hx hb dL_law_245 rfl (lv_at hl 3 rfl) ?_
  refine lv_iload_n hx hb dL_law_246 rfl (lv_at hl 0 rfl) ?_
  refine lv_iconst (v := 2) hx hb dL_law_247 (by decide) ?_
  refine lv_iadd hx hb dL_law_248 ?_
  refine va_sld hx hb hX hbl hbA hS (sc_in (j := 2) (by decide) (by decide) hi hL) dL_law_249 ?_
  refine lv_topi (fun a_2 ea_2 => ?_)
  refine lv_aload_n hx hb dL_law_250 rfl (lv_at hl 3 rfl) ?_
  refine lv_iload_n hx hb dL_law_251 rfl (lv_at hl 0 rfl) ?_
  refine lv_iconst (v := 3) hx hb dL_law_252 (by decide) ?_
  refine lv_iadd hx hb dL_law_253 ?_
  refine va_sld hx hb hX hbl hbA hS (sc_in (j := 3) (by decide) (by decide) hi hL) dL_law_254 ?_
  refine lv_topi (fun a_3 ea_3 => ?_)
  obtain ⟨fs_4, hd_4⟩ := isx_hd (ys := wm) hIX
  have hFc_4 := fr_l hD hS hA
  refine va_calli (va_runV (As := [.int a_1, .int a_2, .int a_3]) (rest := []) ⟨hx, hb, hml, hown, hts⟩ (w_X7_set l dC dI cI cZ cL cJ H.size x _ _ _ _ _ _ _ _ _ _ _ _ _ _ wx a_1 a_2 a_3 hs hIX) (cwV 3 hts gL_law_X7_set rfl rfl rfl (by decide +kernel) ⟨Nat.le_of_ble_eq_true rfl, Nat.le_of_ble_eq_true rfl⟩) (pvL 7 hK hP hD hst hS hFc_4 rfl hd_4) rfl rfl hl.1 rfl (lv_room (Nat.le_of_ble_eq_true rfl)) dL_law_255 ⟨Nat.le_of_ble_eq_true rfl, Nat.le_of_ble_eq_true rfl⟩) hS (fun q _ h => hFc_4 q h) hFc_4 (fun r_4 u_4 t_4 H1 locs ht hvm h_4 hB hz1 hk1 hS => ?_)
  obtain ⟨wx_4, hIX, hP1, hD1⟩ := hB
  rw [ht] at hP1
  obtain ⟨hP, hD⟩ := jn2 hP hD hk1 hFc_4 hP1 hD1
  generalize H1 = H at hP hS ⊢
  refine W.widen (k := 277) (n := 3929) (Nat.le_of_ble_eq_true rfl) (Nat.le_of_ble_eq_true rfl) ?_
  refine lv_pop hx hb dL_law_258 rfl ?_
  refine lv_aload_n hx hb dL_law_259 rfl (lv_at hl 1 rfl) ?_
  refine lv_aload_n hx hb dL_law_260 rfl (lv_at hl 3 rfl) ?_
  refine lv_iload_n hx hb dL_law_261 rfl (lv_at hl 0 rfl) ?_
  refine lv_iconst (v := 1) hx hb dL_law_262 (by decide) ?_
  refine lv_iadd hx hb dL_law_263 ?_
  refine va_sld hx hb hX hbl hbA hS (sc_in (j := 1) (by decide) (by decide) hi hL) dL_law_264 ?_
  rw [← ea_1]
  refine lv_aload_n hx hb dL_law_265 rfl (lv_at hl 3 rfl) ?_
  refine lv_iload_n hx hb dL_law_266 rfl (lv_at hl 0 rfl) ?_
  refine lv_iconst (v := 2) hx hb dL_law_267 (by decide) ?_
  refine lv_iadd hx hb dL_law_268 ?_
  refine va_sld hx hb hX hbl hbA hS (sc_in (j := 2) (by decide) (by decide) hi hL) dL_law_269 ?_
  rw [← ea_2]
  refine lv_aload_n hx hb dL_law_270 rfl (lv_at hl 3 rfl) ?_
  refine lv_iload_n hx hb dL_law_271 rfl (lv_at hl 0 rfl) ?_
  refine lv_iconst (v := 3) hx hb dL_law_272 (by decide) ?_
  refine lv_iadd hx hb dL_law_273 ?_
  refine va_sld hx hb hX hbl hbA hS (sc_in (j := 3) (by decide) (by decide) hi hL) dL_law_274 ?_
  rw [← ea_3]
  obtain ⟨fs_8, hd_8⟩ := ism_hd (ys := wx_4) hIM
  have hFc_8 := fr_l hD hS hA
  refine va_calli (va_runV (As := [.int a_1, .int a_2, .int a_3]) (rest := []) ⟨hx, hb, hml, hown, hts⟩ (w_X8_set l dC dI cI cZ cL cJ H.size mo _ _ _ _ _ _ _ _ _ _ _ _ _ _ wm a_1 a_2 a_3 hIM) (cwV 3 hts gL_law_X8_set rfl rfl rfl (by decide +kernel) ⟨Nat.le_of_ble_eq_true rfl, Nat.le_of_ble_eq_true rfl⟩) (pvL 8 hK hP hD hst hS hFc_8 rfl hd_8) rfl rfl hl.1 rfl (lv_room (Nat.le_of_ble_eq_true rfl)) dL_law_275 ⟨Nat.le_of_ble_eq_true rfl, Nat.le_of_ble_eq_true rfl⟩) hS (fun q _ h => hFc_8 q h) hFc_8 (fun r_8 u_8 t_8 H1 locs ht hvm h_8 hB hz1 hk1 hS => ?_)
  obtain ⟨wm_8, hIM, hP1, hD1⟩ := hB
  rw [ht] at hP1
  obtain ⟨hP, hD⟩ := jn2 hP hD hk1 hFc_8 hP1 hD1
  generalize H1 = H at hP hS ⊢
  refine W.widen (k := 277) (n := 3929) (Nat.le_of_ble_eq_true rfl) (Nat.le_of_ble_eq_true rfl) ?_
  refine lv_pop hx hb dL_law_278 rfl ?_
  refine lv_goto (tgt := 1357) hx hb dL_law_279 (by decide) ?_
  exact lw_tail hC0 hi ⟨⟨_, _, _, _, _, _, _, _, _, _, _, _, _, _, hs, hIX, hIM⟩, hP, hD, hS, hl⟩ ih

set_option maxHeartbeats 4000000 in
set_option maxRecDepth 100000 in
theorem lw_c2 {p : Program} {l : Launch} {e : Env} {s : State} {m : MethodId} {below : List Frame} {meth : Method} {c : Code} {b L : Nat} {xs : Nat → Int32} {dC : Nat → ClassId} {dI : Nat → Nat → Nat} {cI cZ cL cJ : ClassId} {A : Nat → Prop} {H : Heap} {locs : List Loc} {ls : Array Slot} {x mo i : Nat} {wx wm : va_W} (hC : LCx p s m meth c b L xs dC dI cI cZ cL cJ A) (hi : 6 * i + 6 ≤ L) (hv : LIv dC dI cI cZ cL cJ A s b x mo i (wx, wm) H locs ls) (ih : ∀ (st2 : va_W × va_W) (H2 : Heap) (locs2 : List Loc) (ls2 : Array Slot), LIv dC dI cI cZ cL cJ A s b x mo (i + 1) st2 H2 locs2 ls2 → W p l e room_1 s m #[Value.ref b] below meth c H2 locs2 277 3929 (lw_Z below #[Value.ref b] s) (F0 m 18 ls2 [])) : W p l e room_1 s m #[Value.ref b] below meth c H locs 277 3929 (lw_Z below #[Value.ref b] s) (F0 m 282 ls []) := by
  have hC0 := hC
  obtain ⟨hx, hb, hr, hml, hown, hts, hX, hbl, hlocks, hAd, hA, hbA, hK, hst, hL⟩ := hC
  obtain ⟨⟨Rl, Rn, zt, Tb, lf, Lv, An, Ac, I0, I1, Tz, Tc, sg, It, hs, hIX, hIM⟩, hP, hD, hS, hl⟩ := hv
  refine lv_aload_n hx hb dL_law_282 rfl (lv_at hl 2 rfl) ?_
  refine lv_aload_n hx hb dL_law_283 rfl (lv_at hl 3 rfl) ?_
  refine lv_iload_n hx hb dL_law_284 rfl (lv_at hl 0 rfl) ?_
  refine lv_iconst (v := 1) hx hb dL_law_285 (by decide) ?_
  refine lv_iadd hx hb dL_law_286 ?_
  refine va_sld hx hb hX hbl hbA hS (sc_in (j := 1) (by decide) (by decide) hi hL) dL_law_287 ?_
  refine lv_topi (fun a_1 ea_1 => ?_)
  refine lv_aload_n hx hb dL_law_288 rfl (lv_at hl 3 rfl) ?_
  refine lv_iload_n hx hb dL_law_289 rfl (lv_at hl 0 rfl) ?_
  refine lv_iconst (v := 2) hx hb dL_law_290 (by decide) ?_
  refine lv_iadd hx hb dL_law_291 ?_
  refine va_sld hx hb hX hbl hbA hS (sc_in (j := 2) (by decide) (by decide) hi hL) dL_law_292 ?_
  refine lv_topi (fun a_2 ea_2 => ?_)
  refine lv_aload_n hx hb dL_law_293 rfl (lv_at hl 3 rfl) ?_
  refine lv_iload_n hx hb dL_law_294 rfl (lv_at hl 0 rfl) ?_
  refine lv_iconst (v := 3) hx hb dL_law_295 (by decide) ?_
  refine lv_iadd hx hb dL_law_296 ?_
  refine va_sld hx hb hX hbl hbA hS (sc_in (j := 3) (by decide) (by decide) hi hL) dL_law_297 ?_
  refine lv_topi (fun a_3 ea_3 => ?_)
  refine lv_aload_n hx hb dL_law_298 rfl (lv_at hl 3 rfl) ?_
  refine lv_iload_n hx hb dL_law_299 rfl (lv_at hl 0 rfl) ?_
  refine lv_iconst (v := 4) hx hb dL_law_300 (by decide) ?_
  refine lv_iadd hx hb dL_law_301 ?_
  refine va_sld hx hb hX hbl hbA hS (sc_in (j := 4) (by decide) (by decide) hi hL) dL_law_302 ?_
  refine lv_topi (fun a_4 ea_4 => ?_)
  refine lv_aload_n hx hb dL_law_303 rfl (lv_at hl 3 rfl) ?_
  refine lv_iload_n hx hb dL_law_304 rfl (lv_at hl 0 rfl) ?_
  refine lv_iconst (v := 5) hx hb dL_law_305 (by decide) ?_
  refine lv_iadd hx hb dL_law_306 ?_
  refine va_sld hx hb hX hbl hbA hS (sc_in (j := 5) (by decide) (by decide) hi hL) dL_law_307 ?_
  refine lv_topi (fun a_5 ea_5 => ?_)
  obtain ⟨fs_6, hd_6⟩ := isx_hd (ys := wm) hIX
  have hFc_6 := fr_l hD hS hA
  refine va_calli (va_runV (As := [.int a_1, .int a_2, .int a_3, .int a_4, .int a_5]) (rest := []) ⟨hx, hb, hml, hown, hts⟩ (w_X7_copy l dC dI cI cZ cL cJ H.size x _ _ _ _ _ _ _ _ _ _ _ _ _ _ wx a_1 a_2 a_3 a_4 a_5 hs hIX) (cwV 5 hts gL_law_X7_copy rfl rfl rfl (by decide +kernel) ⟨Nat.le_of_ble_eq_true rfl, Nat.le_of_ble_eq_true rfl⟩) (pvL 7 hK hP hD hst hS hFc_6 rfl hd_6) rfl rfl hl.1 rfl (lv_room (Nat.le_of_ble_eq_true rfl)) dL_law_308 ⟨Nat.le_of_ble_eq_true rfl, Nat.le_of_ble_eq_true rfl⟩) hS (fun q _ h => hFc_6 q h) hFc_6 (fun r_6 u_6 t_6 H1 locs ht hvm h_6 hB hz1 hk1 hS => ?_)
  obtain ⟨wx_6, hIX, hP1, hD1⟩ := hB
  rw [ht] at hP1
  obtain ⟨hP, hD⟩ := jn2 hP hD hk1 hFc_6 hP1 hD1
  generalize H1 = H at hP hS ⊢
  refine W.widen (k := 277) (n := 3929) (Nat.le_of_ble_eq_true rfl) (Nat.le_of_ble_eq_true rfl) ?_
  refine lv_pop hx hb dL_law_311 rfl ?_
  refine lv_aload_n hx hb dL_law_312 rfl (lv_at hl 1 rfl) ?_
  refine lv_aload_n hx hb dL_law_313 rfl (lv_at hl 3 rfl) ?_
  refine lv_iload_n hx hb dL_law_314 rfl (lv_at hl 0 rfl) ?_
  refine lv_iconst (v := 1) hx hb dL_law_315 (by decide) ?_
  refine lv_iadd hx hb dL_law_316 ?_
  refine va_sld hx hb hX hbl hbA hS (sc_in (j := 1) (by decide) (by decide) hi hL) dL_law_317 ?_
  rw [← ea_1]
  refine lv_aload_n hx hb dL_law_318 rfl (lv_at hl 3 rfl) ?_
  refine lv_iload_n hx hb dL_law_319 rfl (lv_at hl 0 rfl) ?_
  refine lv_iconst (v := 2) hx hb dL_law_320 (by decide) ?_
  refine lv_iadd hx hb dL_law_321 ?_
  refine va_sld hx hb hX hbl hbA hS (sc_in (j := 2) (by decide) (by decide) hi hL) dL_law_322 ?_
  rw [← ea_2]
  refine lv_aload_n hx hb dL_law_323 rfl (lv_at hl 3 rfl) ?_
  refine lv_iload_n hx hb dL_law_324 rfl (lv_at hl 0 rfl) ?_
  refine lv_iconst (v := 3) hx hb dL_law_325 (by decide) ?_
  refine lv_iadd hx hb dL_law_326 ?_
  refine va_sld hx hb hX hbl hbA hS (sc_in (j := 3) (by decide) (by decide) hi hL) dL_law_327 ?_
  rw [← ea_3]
  refine lv_aload_n hx hb dL_law_328 rfl (lv_at hl 3 rfl) ?_
  refine lv_iload_n hx hb dL_law_329 rfl (lv_at hl 0 rfl) ?_
  refine lv_iconst (v := 4) hx hb dL_law_330 (by decide) ?_
  refine lv_iadd hx hb dL_law_331 ?_
  refine va_sld hx hb hX hbl hbA hS (sc_in (j := 4) (by decide) (by decide) hi hL) dL_law_332 ?_
  rw [← ea_4]
  refine lv_aload_n hx hb dL_law_333 rfl (lv_at hl 3 rfl) ?_
  refine lv_iload_n hx hb dL_law_334 rfl (lv_at hl 0 rfl) ?_
  refine lv_iconst (v := 5) hx hb dL_law_335 (by decide) ?_
  refine lv_iadd hx hb dL_law_336 ?_
  refine va_sld hx hb hX hbl hbA hS (sc_in (j := 5) (by decide) (by decide) hi hL) dL_law_337 ?_
  rw [← ea_5]
  obtain ⟨fs_12, hd_12⟩ := ism_hd (ys := wx_6) hIM
  have hFc_12 := fr_l hD hS hA
  refine va_calli (va_runV (As := [.int a_1, .int a_2, .int a_3, .int a_4, .int a_5]) (rest := []) ⟨hx, hb, hml, hown, hts⟩ (w_X8_copy l dC dI cI cZ cL cJ H.size mo _ _ _ _ _ _ _ _ _ _ _ _ _ _ wm a_1 a_2 a_3 a_4 a_5 hIM) (cwV 5 hts gL_law_X8_copy rfl rfl rfl (by decide +kernel) ⟨Nat.le_of_ble_eq_true rfl, Nat.le_of_ble_eq_true rfl⟩) (pvL 8 hK hP hD hst hS hFc_12 rfl hd_12) rfl rfl hl.1 rfl (lv_room (Nat.le_of_ble_eq_true rfl)) dL_law_338 ⟨Nat.le_of_ble_eq_true rfl, Nat.le_of_ble_eq_true rfl⟩) hS (fun q _ h => hFc_12 q h) hFc_12 (fun r_12 u_12 t_12 H1 locs ht hvm h_12 hB hz1 hk1 hS => ?_)
  obtain ⟨wm_12, hIM, hP1, hD1⟩ := hB
  rw [ht] at hP1
  obtain ⟨hP, hD⟩ := jn2 hP hD hk1 hFc_12 hP1 hD1
  generalize H1 = H at hP hS ⊢
  refine W.widen (k := 277) (n := 3929) (Nat.le_of_ble_eq_true rfl) (Nat.le_of_ble_eq_true rfl) ?_
  refine lv_pop hx hb dL_law_341 rfl ?_
  refine lv_goto (tgt := 1357) hx hb dL_law_342 (by decide) ?_
  exact lw_tail hC0 hi ⟨⟨_, _, _, _, _, _, _, _, _, _, _, _, _, _, hs, hIX, hIM⟩, hP, hD, hS, hl⟩ ih

set_option maxHeartbeats 4000000 in
set_option maxRecDepth 100000 in
theorem lw_c3 {p : Program} {l : Launch} {e : Env} {s : State} {m : MethodId} {below : List Frame} {meth : Method} {c : Code} {b L : Nat} {xs : Nat → Int32} {dC : Nat → ClassId} {dI : Nat → Nat → Nat} {cI cZ cL cJ : ClassId} {A : Nat → Prop} {H : Heap} {locs : List Loc} {ls : Array Slot} {x mo i : Nat} {wx wm : va_W} (hC : LCx p s m meth c b L xs dC dI cI cZ cL cJ A) (hi : 6 * i + 6 ≤ L) (hv : LIv dC dI cI cZ cL cJ A s b x mo i (wx, wm) H locs ls) (ih : ∀ (st2 : va_W × va_W) (H2 : Heap) (locs2 : List Loc) (ls2 : Array Slot), LIv dC dI cI cZ cL cJ A s b x mo (i + 1) st2 H2 locs2 ls2 → W p l e room_1 s m #[Value.ref b] below meth c H2 locs2 277 3929 (lw_Z below #[Value.ref b] s) (F0 m 18 ls2 [])) : W p l e room_1 s m #[Value.ref b] below meth c H locs 277 3929 (lw_Z below #[Value.ref b] s) (F0 m 345 ls []) := by
  have hC0 := hC
  obtain ⟨hx, hb, hr, hml, hown, hts, hX, hbl, hlocks, hAd, hA, hbA, hK, hst, hL⟩ := hC
  obtain ⟨⟨Rl, Rn, zt, Tb, lf, Lv, An, Ac, I0, I1, Tz, Tc, sg, It, hs, hIX, hIM⟩, hP, hD, hS, hl⟩ := hv
  refine lv_aload_n hx hb dL_law_345 rfl (lv_at hl 2 rfl) ?_
  refine lv_aload_n hx hb dL_law_346 rfl (lv_at hl 3 rfl) ?_
  refine lv_iload_n hx hb dL_law_347 rfl (lv_at hl 0 rfl) ?_
  refine lv_iconst (v := 1) hx hb dL_law_348 (by decide) ?_
  refine lv_iadd hx hb dL_law_349 ?_
  refine va_sld hx hb hX hbl hbA hS (sc_in (j := 1) (by decide) (by decide) hi hL) dL_law_350 ?_
  refine lv_topi (fun a_1 ea_1 => ?_)
  obtain ⟨fs_2, hd_2⟩ := isx_hd (ys := wm) hIX
  have hFc_2 := fr_l hD hS hA
  refine va_calli (va_runV (As := [.int a_1]) (rest := []) ⟨hx, hb, hml, hown, hts⟩ (w_X7_drop l dC dI cI cZ cL cJ H.size x _ _ _ _ _ _ _ _ _ _ _ _ _ _ wx a_1 hs hIX) (cwV 1 hts gL_law_X7_drop rfl rfl rfl (by decide +kernel) ⟨Nat.le_of_ble_eq_true rfl, Nat.le_of_ble_eq_true rfl⟩) (pvL 7 hK hP hD hst hS hFc_2 rfl hd_2) rfl rfl hl.1 rfl (lv_room (Nat.le_of_ble_eq_true rfl)) dL_law_351 ⟨Nat.le_of_ble_eq_true rfl, Nat.le_of_ble_eq_true rfl⟩) hS (fun q _ h => hFc_2 q h) hFc_2 (fun r_2 u_2 t_2 H1 locs ht hvm h_2 hB hz1 hk1 hS => ?_)
  obtain ⟨wx_2, hIX, hP1, hD1⟩ := hB
  rw [ht] at hP1
  obtain ⟨hP, hD⟩ := jn2 hP hD hk1 hFc_2 hP1 hD1
  generalize H1 = H at hP hS ⊢
  refine W.widen (k := 277) (n := 3929) (Nat.le_of_ble_eq_true rfl) (Nat.le_of_ble_eq_true rfl) ?_
  refine lv_pop hx hb dL_law_354 rfl ?_
  refine lv_aload_n hx hb dL_law_355 rfl (lv_at hl 1 rfl) ?_
  refine lv_aload_n hx hb dL_law_356 rfl (lv_at hl 3 rfl) ?_
  refine lv_iload_n hx hb dL_law_357 rfl (lv_at hl 0 rfl) ?_
  refine lv_iconst (v := 1) hx hb dL_law_358 (by decide) ?_
  refine lv_iadd hx hb dL_law_359 ?_
  refine va_sld hx hb hX hbl hbA hS (sc_in (j := 1) (by decide) (by decide) hi hL) dL_law_360 ?_
  rw [← ea_1]
  obtain ⟨fs_4, hd_4⟩ := ism_hd (ys := wx_2) hIM
  have hFc_4 := fr_l hD hS hA
  refine va_calli (va_runV (As := [.int a_1]) (rest := []) ⟨hx, hb, hml, hown, hts⟩ (w_X8_drop l dC dI cI cZ cL cJ H.size mo _ _ _ _ _ _ _ _ _ _ _ _ _ _ wm a_1 hIM) (cwV 1 hts gL_law_X8_drop rfl rfl rfl (by decide +kernel) ⟨Nat.le_of_ble_eq_true rfl, Nat.le_of_ble_eq_true rfl⟩) (pvL 8 hK hP hD hst hS hFc_4 rfl hd_4) rfl rfl hl.1 rfl (lv_room (Nat.le_of_ble_eq_true rfl)) dL_law_361 ⟨Nat.le_of_ble_eq_true rfl, Nat.le_of_ble_eq_true rfl⟩) hS (fun q _ h => hFc_4 q h) hFc_4 (fun r_4 u_4 t_4 H1 locs ht hvm h_4 hB hz1 hk1 hS => ?_)
  obtain ⟨wm_4, hIM, hP1, hD1⟩ := hB
  rw [ht] at hP1
  obtain ⟨hP, hD⟩ := jn2 hP hD hk1 hFc_4 hP1 hD1
  generalize H1 = H at hP hS ⊢
  refine W.widen (k := 277) (n := 3929) (Nat.le_of_ble_eq_true rfl) (Nat.le_of_ble_eq_true rfl) ?_
  refine lv_pop hx hb dL_law_364 rfl ?_
  refine lv_goto (tgt := 1357) hx hb dL_law_365 (by decide) ?_
  exact lw_tail hC0 hi ⟨⟨_, _, _, _, _, _, _, _, _, _, _, _, _, _, hs, hIX, hIM⟩, hP, hD, hS, hl⟩ ih

set_option maxHeartbeats 4000000 in
set_option maxRecDepth 100000 in
theorem lw_c4 {p : Program} {l : Launch} {e : Env} {s : State} {m : MethodId} {below : List Frame} {meth : Method} {c : Code} {b L : Nat} {xs : Nat → Int32} {dC : Nat → ClassId} {dI : Nat → Nat → Nat} {cI cZ cL cJ : ClassId} {A : Nat → Prop} {H : Heap} {locs : List Loc} {ls : Array Slot} {x mo i : Nat} {wx wm : va_W} (hC : LCx p s m meth c b L xs dC dI cI cZ cL cJ A) (hi : 6 * i + 6 ≤ L) (hv : LIv dC dI cI cZ cL cJ A s b x mo i (wx, wm) H locs ls) (ih : ∀ (st2 : va_W × va_W) (H2 : Heap) (locs2 : List Loc) (ls2 : Array Slot), LIv dC dI cI cZ cL cJ A s b x mo (i + 1) st2 H2 locs2 ls2 → W p l e room_1 s m #[Value.ref b] below meth c H2 locs2 277 3929 (lw_Z below #[Value.ref b] s) (F0 m 18 ls2 [])) : W p l e room_1 s m #[Value.ref b] below meth c H locs 277 3929 (lw_Z below #[Value.ref b] s) (F0 m 368 ls []) := by
  have hC0 := hC
  obtain ⟨hx, hb, hr, hml, hown, hts, hX, hbl, hlocks, hAd, hA, hbA, hK, hst, hL⟩ := hC
  obtain ⟨⟨Rl, Rn, zt, Tb, lf, Lv, An, Ac, I0, I1, Tz, Tc, sg, It, hs, hIX, hIM⟩, hP, hD, hS, hl⟩ := hv
  refine lv_aload_n hx hb dL_law_368 rfl (lv_at hl 2 rfl) ?_
  refine lv_aload_n hx hb dL_law_369 rfl (lv_at hl 3 rfl) ?_
  refine lv_iload_n hx hb dL_law_370 rfl (lv_at hl 0 rfl) ?_
  refine lv_iconst (v := 1) hx hb dL_law_371 (by decide) ?_
  refine lv_iadd hx hb dL_law_372 ?_
  refine va_sld hx hb hX hbl hbA hS (sc_in (j := 1) (by decide) (by decide) hi hL) dL_law_373 ?_
  refine lv_topi (fun a_1 ea_1 => ?_)
  obtain ⟨fs_2, hd_2⟩ := isx_hd (ys := wm) hIX
  have hFc_2 := fr_l hD hS hA
  refine va_calli (va_runV (As := [.int a_1]) (rest := []) ⟨hx, hb, hml, hown, hts⟩ (w_X7_feed l dC dI cI cZ cL cJ H.size x _ _ _ _ _ _ _ _ _ _ _ _ _ _ wx a_1 hs hIX) (cwV 1 hts gL_law_X7_feed rfl rfl rfl (by decide +kernel) ⟨Nat.le_of_ble_eq_true rfl, Nat.le_of_ble_eq_true rfl⟩) (pvL 7 hK hP hD hst hS hFc_2 rfl hd_2) rfl rfl hl.1 rfl (lv_room (Nat.le_of_ble_eq_true rfl)) dL_law_374 ⟨Nat.le_of_ble_eq_true rfl, Nat.le_of_ble_eq_true rfl⟩) hS (fun q _ h => hFc_2 q h) hFc_2 (fun r_2 u_2 t_2 H1 locs ht hvm h_2 hB hz1 hk1 hS => ?_)
  obtain ⟨wx_2, hIX, hP1, hD1⟩ := hB
  rw [ht] at hP1
  obtain ⟨hP, hD⟩ := jn2 hP hD hk1 hFc_2 hP1 hD1
  generalize H1 = H at hP hS ⊢
  refine W.widen (k := 277) (n := 3929) (Nat.le_of_ble_eq_true rfl) (Nat.le_of_ble_eq_true rfl) ?_
  refine lv_pop hx hb dL_law_377 rfl ?_
  refine lv_aload_n hx hb dL_law_378 rfl (lv_at hl 1 rfl) ?_
  refine lv_aload_n hx hb dL_law_379 rfl (lv_at hl 3 rfl) ?_
  refine lv_iload_n hx hb dL_law_380 rfl (lv_at hl 0 rfl) ?_
  refine lv_iconst (v := 1) hx hb dL_law_381 (by decide) ?_
  refine lv_iadd hx hb dL_law_382 ?_
  refine va_sld hx hb hX hbl hbA hS (sc_in (j := 1) (by decide) (by decide) hi hL) dL_law_383 ?_
  rw [← ea_1]
  obtain ⟨fs_4, hd_4⟩ := ism_hd (ys := wx_2) hIM
  have hFc_4 := fr_l hD hS hA
  refine va_calli (va_runV (As := [.int a_1]) (rest := []) ⟨hx, hb, hml, hown, hts⟩ (w_X8_feed l dC dI cI cZ cL cJ H.size mo _ _ _ _ _ _ _ _ _ _ _ _ _ _ wm a_1 hIM) (cwV 1 hts gL_law_X8_feed rfl rfl rfl (by decide +kernel) ⟨Nat.le_of_ble_eq_true rfl, Nat.le_of_ble_eq_true rfl⟩) (pvL 8 hK hP hD hst hS hFc_4 rfl hd_4) rfl rfl hl.1 rfl (lv_room (Nat.le_of_ble_eq_true rfl)) dL_law_384 ⟨Nat.le_of_ble_eq_true rfl, Nat.le_of_ble_eq_true rfl⟩) hS (fun q _ h => hFc_4 q h) hFc_4 (fun r_4 u_4 t_4 H1 locs ht hvm h_4 hB hz1 hk1 hS => ?_)
  obtain ⟨wm_4, hIM, hP1, hD1⟩ := hB
  rw [ht] at hP1
  obtain ⟨hP, hD⟩ := jn2 hP hD hk1 hFc_4 hP1 hD1
  generalize H1 = H at hP hS ⊢
  refine W.widen (k := 277) (n := 3929) (Nat.le_of_ble_eq_true rfl) (Nat.le_of_ble_eq_true rfl) ?_
  refine lv_pop hx hb dL_law_387 rfl ?_
  refine lv_goto (tgt := 1357) hx hb dL_law_388 (by decide) ?_
  exact lw_tail hC0 hi ⟨⟨_, _, _, _, _, _, _, _, _, _, _, _, _, _, hs, hIX, hIM⟩, hP, hD, hS, hl⟩ ih

set_option maxHeartbeats 4000000 in
set_option maxRecDepth 100000 in
theorem lw_c5 {p : Program} {l : Launch} {e : Env} {s : State} {m : MethodId} {below : List Frame} {meth : Method} {c : Code} {b L : Nat} {xs : Nat → Int32} {dC : Nat → ClassId} {dI : Nat → Nat → Nat} {cI cZ cL cJ : ClassId} {A : Nat → Prop} {H : Heap} {locs : List Loc} {ls : Array Slot} {x mo i : Nat} {wx wm : va_W} (hC : LCx p s m meth c b L xs dC dI cI cZ cL cJ A) (hi : 6 * i + 6 ≤ L) (hv : LIv dC dI cI cZ cL cJ A s b x mo i (wx, wm) H locs ls) (ih : ∀ (st2 : va_W × va_W) (H2 : Heap) (locs2 : List Loc) (ls2 : Array Slot), LIv dC dI cI cZ cL cJ A s b x mo (i + 1) st2 H2 locs2 ls2 → W p l e room_1 s m #[Value.ref b] below meth c H2 locs2 277 3929 (lw_Z below #[Value.ref b] s) (F0 m 18 ls2 [])) : W p l e room_1 s m #[Value.ref b] below meth c H locs 277 3929 (lw_Z below #[Value.ref b] s) (F0 m 391 ls []) := by
  have hC0 := hC
  obtain ⟨hx, hb, hr, hml, hown, hts, hX, hbl, hlocks, hAd, hA, hbA, hK, hst, hL⟩ := hC
  obtain ⟨⟨Rl, Rn, zt, Tb, lf, Lv, An, Ac, I0, I1, Tz, Tc, sg, It, hs, hIX, hIM⟩, hP, hD, hS, hl⟩ := hv
  refine lv_aload_n hx hb dL_law_391 rfl (lv_at hl 2 rfl) ?_
  obtain ⟨fs_1, hd_1⟩ := isx_hd (ys := wm) hIX
  have hFc_1 := fr_l hD hS hA
  refine va_calli (va_runV (As := []) (rest := []) ⟨hx, hb, hml, hown, hts⟩ (w_X7_level l dC dI cI cZ cL cJ H.size x _ _ _ _ _ _ _ _ _ _ _ _ _ _ wx  hs hIX) (cwV 0 hts gL_law_X7_level rfl rfl rfl (by decide +kernel) ⟨Nat.le_of_ble_eq_true rfl, Nat.le_of_ble_eq_true rfl⟩) (pvL 7 hK hP hD hst hS hFc_1 rfl hd_1) rfl rfl hl.1 rfl (lv_room (Nat.le_of_ble_eq_true rfl)) dL_law_392 ⟨Nat.le_of_ble_eq_true rfl, Nat.le_of_ble_eq_true rfl⟩) hS (fun q _ h => hFc_1 q h) hFc_1 (fun r_1 u_1 t_1 H1 locs ht hvm h_1 hB hz1 hk1 hS => ?_)
  obtain ⟨wx_1, hIX, hP1, hD1⟩ := hB
  rw [ht] at hP1
  obtain ⟨hP, hD⟩ := jn2 hP hD hk1 hFc_1 hP1 hD1
  generalize H1 = H at hP hS ⊢
  refine W.widen (k := 277) (n := 3929) (Nat.le_of_ble_eq_true rfl) (Nat.le_of_ble_eq_true rfl) ?_
  refine lv_pop hx hb dL_law_395 rfl ?_
  refine lv_aload_n hx hb dL_law_396 rfl (lv_at hl 1 rfl) ?_
  obtain ⟨fs_2, hd_2⟩ := ism_hd (ys := wx_1) hIM
  have hFc_2 := fr_l hD hS hA
  refine va_calli (va_runV (As := []) (rest := []) ⟨hx, hb, hml, hown, hts⟩ (w_X8_level l dC dI cI cZ cL cJ H.size mo _ _ _ _ _ _ _ _ _ _ _ _ _ _ wm  hIM) (cwV 0 hts gL_law_X8_level rfl rfl rfl (by decide +kernel) ⟨Nat.le_of_ble_eq_true rfl, Nat.le_of_ble_eq_true rfl⟩) (pvL 8 hK hP hD hst hS hFc_2 rfl hd_2) rfl rfl hl.1 rfl (lv_room (Nat.le_of_ble_eq_true rfl)) dL_law_397 ⟨Nat.le_of_ble_eq_true rfl, Nat.le_of_ble_eq_true rfl⟩) hS (fun q _ h => hFc_2 q h) hFc_2 (fun r_2 u_2 t_2 H1 locs ht hvm h_2 hB hz1 hk1 hS => ?_)
  obtain ⟨wm_2, hIM, hP1, hD1⟩ := hB
  rw [ht] at hP1
  obtain ⟨hP, hD⟩ := jn2 hP hD hk1 hFc_2 hP1 hD1
  generalize H1 = H at hP hS ⊢
  refine W.widen (k := 277) (n := 3929) (Nat.le_of_ble_eq_true rfl) (Nat.le_of_ble_eq_true rfl) ?_
  refine lv_pop hx hb dL_law_400 rfl ?_
  refine lv_goto (tgt := 1357) hx hb dL_law_401 (by decide) ?_
  exact lw_tail hC0 hi ⟨⟨_, _, _, _, _, _, _, _, _, _, _, _, _, _, ok_lev hs, hIX, hIM⟩, hP, hD, hS, hl⟩ ih

set_option maxHeartbeats 4000000 in
set_option maxRecDepth 100000 in
theorem lw_c6 {p : Program} {l : Launch} {e : Env} {s : State} {m : MethodId} {below : List Frame} {meth : Method} {c : Code} {b L : Nat} {xs : Nat → Int32} {dC : Nat → ClassId} {dI : Nat → Nat → Nat} {cI cZ cL cJ : ClassId} {A : Nat → Prop} {H : Heap} {locs : List Loc} {ls : Array Slot} {x mo i : Nat} {wx wm : va_W} (hC : LCx p s m meth c b L xs dC dI cI cZ cL cJ A) (hi : 6 * i + 6 ≤ L) (hv : LIv dC dI cI cZ cL cJ A s b x mo i (wx, wm) H locs ls) (ih : ∀ (st2 : va_W × va_W) (H2 : Heap) (locs2 : List Loc) (ls2 : Array Slot), LIv dC dI cI cZ cL cJ A s b x mo (i + 1) st2 H2 locs2 ls2 → W p l e room_1 s m #[Value.ref b] below meth c H2 locs2 277 3929 (lw_Z below #[Value.ref b] s) (F0 m 18 ls2 [])) : W p l e room_1 s m #[Value.ref b] below meth c H locs 277 3929 (lw_Z below #[Value.ref b] s) (F0 m 404 ls []) := by
  have hC0 := hC
  obtain ⟨hx, hb, hr, hml, hown, hts, hX, hbl, hlocks, hAd, hA, hbA, hK, hst, hL⟩ := hC
  obtain ⟨⟨Rl, Rn, zt, Tb, lf, Lv, An, Ac, I0, I1, Tz, Tc, sg, It, hs, hIX, hIM⟩, hP, hD, hS, hl⟩ := hv
  refine lv_aload_n hx hb dL_law_404 rfl (lv_at hl 2 rfl) ?_
  obtain ⟨fs_1, hd_1⟩ := isx_hd (ys := wm) hIX
  have hFc_1 := fr_l hD hS hA
  refine va_calli (va_runV (As := []) (rest := []) ⟨hx, hb, hml, hown, hts⟩ (w_X7_fault l dC dI cI cZ cL cJ H.size x _ _ _ _ _ _ _ _ _ _ _ _ _ _ wx  hs hIX) (cwV 0 hts gL_law_X7_fault rfl rfl rfl (by decide +kernel) ⟨Nat.le_of_ble_eq_true rfl, Nat.le_of_ble_eq_true rfl⟩) (pvL 7 hK hP hD hst hS hFc_1 rfl hd_1) rfl rfl hl.1 rfl (lv_room (Nat.le_of_ble_eq_true rfl)) dL_law_405 ⟨Nat.le_of_ble_eq_true rfl, Nat.le_of_ble_eq_true rfl⟩) hS (fun q _ h => hFc_1 q h) hFc_1 (fun r_1 u_1 t_1 H1 locs ht hvm h_1 hB hz1 hk1 hS => ?_)
  obtain ⟨wx_1, hIX, hP1, hD1⟩ := hB
  rw [ht] at hP1
  obtain ⟨hP, hD⟩ := jn2 hP hD hk1 hFc_1 hP1 hD1
  generalize H1 = H at hP hS ⊢
  refine W.widen (k := 277) (n := 3929) (Nat.le_of_ble_eq_true rfl) (Nat.le_of_ble_eq_true rfl) ?_
  refine lv_pop hx hb dL_law_408 rfl ?_
  refine lv_aload_n hx hb dL_law_409 rfl (lv_at hl 1 rfl) ?_
  obtain ⟨fs_2, hd_2⟩ := ism_hd (ys := wx_1) hIM
  have hFc_2 := fr_l hD hS hA
  refine va_calli (va_runV (As := []) (rest := []) ⟨hx, hb, hml, hown, hts⟩ (w_X8_fault l dC dI cI cZ cL cJ H.size mo _ _ _ _ _ _ _ _ _ _ _ _ _ _ wm  hIM) (cwV 0 hts gL_law_X8_fault rfl rfl rfl (by decide +kernel) ⟨Nat.le_of_ble_eq_true rfl, Nat.le_of_ble_eq_true rfl⟩) (pvL 8 hK hP hD hst hS hFc_2 rfl hd_2) rfl rfl hl.1 rfl (lv_room (Nat.le_of_ble_eq_true rfl)) dL_law_410 ⟨Nat.le_of_ble_eq_true rfl, Nat.le_of_ble_eq_true rfl⟩) hS (fun q _ h => hFc_2 q h) hFc_2 (fun r_2 u_2 t_2 H1 locs ht hvm h_2 hB hz1 hk1 hS => ?_)
  obtain ⟨wm_2, hIM, hP1, hD1⟩ := hB
  rw [ht] at hP1
  obtain ⟨hP, hD⟩ := jn2 hP hD hk1 hFc_2 hP1 hD1
  generalize H1 = H at hP hS ⊢
  refine W.widen (k := 277) (n := 3929) (Nat.le_of_ble_eq_true rfl) (Nat.le_of_ble_eq_true rfl) ?_
  refine lv_pop hx hb dL_law_413 rfl ?_
  refine lv_goto (tgt := 1357) hx hb dL_law_414 (by decide) ?_
  exact lw_tail hC0 hi ⟨⟨_, _, _, _, _, _, _, _, _, _, _, _, _, _, hs, hIX, hIM⟩, hP, hD, hS, hl⟩ ih

set_option maxHeartbeats 4000000 in
set_option maxRecDepth 100000 in
theorem lw_c7 {p : Program} {l : Launch} {e : Env} {s : State} {m : MethodId} {below : List Frame} {meth : Method} {c : Code} {b L : Nat} {xs : Nat → Int32} {dC : Nat → ClassId} {dI : Nat → Nat → Nat} {cI cZ cL cJ : ClassId} {A : Nat → Prop} {H : Heap} {locs : List Loc} {ls : Array Slot} {x mo i : Nat} {wx wm : va_W} (hC : LCx p s m meth c b L xs dC dI cI cZ cL cJ A) (hi : 6 * i + 6 ≤ L) (hv : LIv dC dI cI cZ cL cJ A s b x mo i (wx, wm) H locs ls) (ih : ∀ (st2 : va_W × va_W) (H2 : Heap) (locs2 : List Loc) (ls2 : Array Slot), LIv dC dI cI cZ cL cJ A s b x mo (i + 1) st2 H2 locs2 ls2 → W p l e room_1 s m #[Value.ref b] below meth c H2 locs2 277 3929 (lw_Z below #[Value.ref b] s) (F0 m 18 ls2 [])) : W p l e room_1 s m #[Value.ref b] below meth c H locs 277 3929 (lw_Z below #[Value.ref b] s) (F0 m 417 ls []) := by
  have hC0 := hC
  obtain ⟨hx, hb, hr, hml, hown, hts, hX, hbl, hlocks, hAd, hA, hbA, hK, hst, hL⟩ := hC
  obtain ⟨⟨Rl, Rn, zt, Tb, lf, Lv, An, Ac, I0, I1, Tz, Tc, sg, It, hs, hIX, hIM⟩, hP, hD, hS, hl⟩ := hv
  refine lv_aload_n hx hb dL_law_417 rfl (lv_at hl 2 rfl) ?_
  obtain ⟨fs_1, hd_1⟩ := isx_hd (ys := wm) hIX
  have hFc_1 := fr_l hD hS hA
  refine va_calli (va_runV (As := []) (rest := []) ⟨hx, hb, hml, hown, hts⟩ (w_X7_undo l dC dI cI cZ cL cJ H.size x _ _ _ _ _ _ _ _ _ _ _ _ _ _ wx  hs hIX) (cwV 0 hts gL_law_X7_undo rfl rfl rfl (by decide +kernel) ⟨Nat.le_of_ble_eq_true rfl, Nat.le_of_ble_eq_true rfl⟩) (pvL 7 hK hP hD hst hS hFc_1 rfl hd_1) rfl rfl hl.1 rfl (lv_room (Nat.le_of_ble_eq_true rfl)) dL_law_418 ⟨Nat.le_of_ble_eq_true rfl, Nat.le_of_ble_eq_true rfl⟩) hS (fun q _ h => hFc_1 q h) hFc_1 (fun r_1 u_1 t_1 H1 locs ht hvm h_1 hB hz1 hk1 hS => ?_)
  obtain ⟨wx_1, hIX, hP1, hD1⟩ := hB
  rw [ht] at hP1
  obtain ⟨hP, hD⟩ := jn2 hP hD hk1 hFc_1 hP1 hD1
  generalize H1 = H at hP hS ⊢
  refine W.widen (k := 277) (n := 3929) (Nat.le_of_ble_eq_true rfl) (Nat.le_of_ble_eq_true rfl) ?_
  refine lv_pop hx hb dL_law_421 rfl ?_
  refine lv_aload_n hx hb dL_law_422 rfl (lv_at hl 1 rfl) ?_
  obtain ⟨fs_2, hd_2⟩ := ism_hd (ys := wx_1) hIM
  have hFc_2 := fr_l hD hS hA
  refine va_calli (va_runV (As := []) (rest := []) ⟨hx, hb, hml, hown, hts⟩ (w_X8_undo l dC dI cI cZ cL cJ H.size mo _ _ _ _ _ _ _ _ _ _ _ _ _ _ wm  hIM) (cwV 0 hts gL_law_X8_undo rfl rfl rfl (by decide +kernel) ⟨Nat.le_of_ble_eq_true rfl, Nat.le_of_ble_eq_true rfl⟩) (pvL 8 hK hP hD hst hS hFc_2 rfl hd_2) rfl rfl hl.1 rfl (lv_room (Nat.le_of_ble_eq_true rfl)) dL_law_423 ⟨Nat.le_of_ble_eq_true rfl, Nat.le_of_ble_eq_true rfl⟩) hS (fun q _ h => hFc_2 q h) hFc_2 (fun r_2 u_2 t_2 H1 locs ht hvm h_2 hB hz1 hk1 hS => ?_)
  obtain ⟨wm_2, hIM, hP1, hD1⟩ := hB
  rw [ht] at hP1
  obtain ⟨hP, hD⟩ := jn2 hP hD hk1 hFc_2 hP1 hD1
  generalize H1 = H at hP hS ⊢
  refine W.widen (k := 277) (n := 3929) (Nat.le_of_ble_eq_true rfl) (Nat.le_of_ble_eq_true rfl) ?_
  refine lv_pop hx hb dL_law_426 rfl ?_
  refine lv_goto (tgt := 1357) hx hb dL_law_427 (by decide) ?_
  exact lw_tail hC0 hi ⟨⟨_, _, _, _, _, _, _, _, _, _, _, _, _, _, ok_undo hs, hIX, hIM⟩, hP, hD, hS, hl⟩ ih

set_option maxHeartbeats 4000000 in
set_option maxRecDepth 100000 in
theorem lw_c8 {p : Program} {l : Launch} {e : Env} {s : State} {m : MethodId} {below : List Frame} {meth : Method} {c : Code} {b L : Nat} {xs : Nat → Int32} {dC : Nat → ClassId} {dI : Nat → Nat → Nat} {cI cZ cL cJ : ClassId} {A : Nat → Prop} {H : Heap} {locs : List Loc} {ls : Array Slot} {x mo i : Nat} {wx wm : va_W} (hC : LCx p s m meth c b L xs dC dI cI cZ cL cJ A) (hi : 6 * i + 6 ≤ L) (hv : LIv dC dI cI cZ cL cJ A s b x mo i (wx, wm) H locs ls) (ih : ∀ (st2 : va_W × va_W) (H2 : Heap) (locs2 : List Loc) (ls2 : Array Slot), LIv dC dI cI cZ cL cJ A s b x mo (i + 1) st2 H2 locs2 ls2 → W p l e room_1 s m #[Value.ref b] below meth c H2 locs2 277 3929 (lw_Z below #[Value.ref b] s) (F0 m 18 ls2 [])) : W p l e room_1 s m #[Value.ref b] below meth c H locs 277 3929 (lw_Z below #[Value.ref b] s) (F0 m 430 ls []) := by
  have hC0 := hC
  obtain ⟨hx, hb, hr, hml, hown, hts, hX, hbl, hlocks, hAd, hA, hbA, hK, hst, hL⟩ := hC
  obtain ⟨⟨Rl, Rn, zt, Tb, lf, Lv, An, Ac, I0, I1, Tz, Tc, sg, It, hs, hIX, hIM⟩, hP, hD, hS, hl⟩ := hv
  refine lv_aload_n hx hb dL_law_430 rfl (lv_at hl 2 rfl) ?_
  refine lv_aload_n hx hb dL_law_431 rfl (lv_at hl 3 rfl) ?_
  refine lv_iload_n hx hb dL_law_432 rfl (lv_at hl 0 rfl) ?_
  refine lv_iconst (v := 1) hx hb dL_law_433 (by decide) ?_
  refine lv_iadd hx hb dL_law_434 ?_
  refine va_sld hx hb hX hbl hbA hS (sc_in (j := 1) (by decide) (by decide) hi hL) dL_law_435 ?_
  refine lv_topi (fun a_1 ea_1 => ?_)
  obtain ⟨fs_2, hd_2⟩ := isx_hd (ys := wm) hIX
  have hFc_2 := fr_l hD hS hA
  refine va_calli (va_runV (As := [.int a_1]) (rest := []) ⟨hx, hb, hml, hown, hts⟩ (w_X7_hours l dC dI cI cZ cL cJ H.size x _ _ _ _ _ _ _ _ _ _ _ _ _ _ wx a_1 hs hIX) (cwV 1 hts gL_law_X7_hours rfl rfl rfl (by decide +kernel) ⟨Nat.le_of_ble_eq_true rfl, Nat.le_of_ble_eq_true rfl⟩) (pvL 7 hK hP hD hst hS hFc_2 rfl hd_2) rfl rfl hl.1 rfl (lv_room (Nat.le_of_ble_eq_true rfl)) dL_law_436 ⟨Nat.le_of_ble_eq_true rfl, Nat.le_of_ble_eq_true rfl⟩) hS (fun q _ h => hFc_2 q h) hFc_2 (fun r_2 u_2 t_2 H1 locs ht hvm h_2 hB hz1 hk1 hS => ?_)
  obtain ⟨wx_2, hIX, hP1, hD1⟩ := hB
  rw [ht] at hP1
  obtain ⟨hP, hD⟩ := jn2 hP hD hk1 hFc_2 hP1 hD1
  generalize H1 = H at hP hS ⊢
  refine W.widen (k := 277) (n := 3929) (Nat.le_of_ble_eq_true rfl) (Nat.le_of_ble_eq_true rfl) ?_
  refine lv_pop hx hb dL_law_439 rfl ?_
  refine lv_aload_n hx hb dL_law_440 rfl (lv_at hl 1 rfl) ?_
  refine lv_aload_n hx hb dL_law_441 rfl (lv_at hl 3 rfl) ?_
  refine lv_iload_n hx hb dL_law_442 rfl (lv_at hl 0 rfl) ?_
  refine lv_iconst (v := 1) hx hb dL_law_443 (by decide) ?_
  refine lv_iadd hx hb dL_law_444 ?_
  refine va_sld hx hb hX hbl hbA hS (sc_in (j := 1) (by decide) (by decide) hi hL) dL_law_445 ?_
  rw [← ea_1]
  obtain ⟨fs_4, hd_4⟩ := ism_hd (ys := wx_2) hIM
  have hFc_4 := fr_l hD hS hA
  refine va_calli (va_runV (As := [.int a_1]) (rest := []) ⟨hx, hb, hml, hown, hts⟩ (w_X8_hours l dC dI cI cZ cL cJ H.size mo _ _ _ _ _ _ _ _ _ _ _ _ _ _ wm a_1 hIM) (cwV 1 hts gL_law_X8_hours rfl rfl rfl (by decide +kernel) ⟨Nat.le_of_ble_eq_true rfl, Nat.le_of_ble_eq_true rfl⟩) (pvL 8 hK hP hD hst hS hFc_4 rfl hd_4) rfl rfl hl.1 rfl (lv_room (Nat.le_of_ble_eq_true rfl)) dL_law_446 ⟨Nat.le_of_ble_eq_true rfl, Nat.le_of_ble_eq_true rfl⟩) hS (fun q _ h => hFc_4 q h) hFc_4 (fun r_4 u_4 t_4 H1 locs ht hvm h_4 hB hz1 hk1 hS => ?_)
  obtain ⟨wm_4, hIM, hP1, hD1⟩ := hB
  rw [ht] at hP1
  obtain ⟨hP, hD⟩ := jn2 hP hD hk1 hFc_4 hP1 hD1
  generalize H1 = H at hP hS ⊢
  refine W.widen (k := 277) (n := 3929) (Nat.le_of_ble_eq_true rfl) (Nat.le_of_ble_eq_true rfl) ?_
  refine lv_pop hx hb dL_law_449 rfl ?_
  refine lv_goto (tgt := 1357) hx hb dL_law_450 (by decide) ?_
  exact lw_tail hC0 hi ⟨⟨_, _, _, _, _, _, _, _, _, _, _, _, _, _, ok_hrs hs, hIX, hIM⟩, hP, hD, hS, hl⟩ ih

set_option maxHeartbeats 4000000 in
set_option maxRecDepth 100000 in
theorem lw_c9 {p : Program} {l : Launch} {e : Env} {s : State} {m : MethodId} {below : List Frame} {meth : Method} {c : Code} {b L : Nat} {xs : Nat → Int32} {dC : Nat → ClassId} {dI : Nat → Nat → Nat} {cI cZ cL cJ : ClassId} {A : Nat → Prop} {H : Heap} {locs : List Loc} {ls : Array Slot} {x mo i : Nat} {wx wm : va_W} (hC : LCx p s m meth c b L xs dC dI cI cZ cL cJ A) (hi : 6 * i + 6 ≤ L) (hv : LIv dC dI cI cZ cL cJ A s b x mo i (wx, wm) H locs ls) (ih : ∀ (st2 : va_W × va_W) (H2 : Heap) (locs2 : List Loc) (ls2 : Array Slot), LIv dC dI cI cZ cL cJ A s b x mo (i + 1) st2 H2 locs2 ls2 → W p l e room_1 s m #[Value.ref b] below meth c H2 locs2 277 3929 (lw_Z below #[Value.ref b] s) (F0 m 18 ls2 [])) : W p l e room_1 s m #[Value.ref b] below meth c H locs 277 3929 (lw_Z below #[Value.ref b] s) (F0 m 453 ls []) := by
  have hC0 := hC
  obtain ⟨hx, hb, hr, hml, hown, hts, hX, hbl, hlocks, hAd, hA, hbA, hK, hst, hL⟩ := hC
  obtain ⟨⟨Rl, Rn, zt, Tb, lf, Lv, An, Ac, I0, I1, Tz, Tc, sg, It, hs, hIX, hIM⟩, hP, hD, hS, hl⟩ := hv
  refine lv_aload_n hx hb dL_law_453 rfl (lv_at hl 2 rfl) ?_
  obtain ⟨fs_1, hd_1⟩ := isx_hd (ys := wm) hIX
  have hFc_1 := fr_l hD hS hA
  refine va_calli (va_runV (As := []) (rest := []) ⟨hx, hb, hml, hown, hts⟩ (w_X7_cap l dC dI cI cZ cL cJ H.size x _ _ _ _ _ _ _ _ _ _ _ _ _ _ wx  hs hIX) (cwV 0 hts gL_law_X7_cap rfl rfl rfl (by decide +kernel) ⟨Nat.le_of_ble_eq_true rfl, Nat.le_of_ble_eq_true rfl⟩) (pvL 7 hK hP hD hst hS hFc_1 rfl hd_1) rfl rfl hl.1 rfl (lv_room (Nat.le_of_ble_eq_true rfl)) dL_law_454 ⟨Nat.le_of_ble_eq_true rfl, Nat.le_of_ble_eq_true rfl⟩) hS (fun q _ h => hFc_1 q h) hFc_1 (fun r_1 u_1 t_1 H1 locs ht hvm h_1 hB hz1 hk1 hS => ?_)
  obtain ⟨wx_1, hIX, hP1, hD1⟩ := hB
  rw [ht] at hP1
  obtain ⟨hP, hD⟩ := jn2 hP hD hk1 hFc_1 hP1 hD1
  generalize H1 = H at hP hS ⊢
  refine W.widen (k := 277) (n := 3929) (Nat.le_of_ble_eq_true rfl) (Nat.le_of_ble_eq_true rfl) ?_
  refine lv_pop hx hb dL_law_457 rfl ?_
  refine lv_aload_n hx hb dL_law_458 rfl (lv_at hl 1 rfl) ?_
  obtain ⟨fs_2, hd_2⟩ := ism_hd (ys := wx_1) hIM
  have hFc_2 := fr_l hD hS hA
  refine va_calli (va_runV (As := []) (rest := []) ⟨hx, hb, hml, hown, hts⟩ (w_X8_cap l dC dI cI cZ cL cJ H.size mo _ _ _ _ _ _ _ _ _ _ _ _ _ _ wm  hIM) (cwV 0 hts gL_law_X8_cap rfl rfl rfl (by decide +kernel) ⟨Nat.le_of_ble_eq_true rfl, Nat.le_of_ble_eq_true rfl⟩) (pvL 8 hK hP hD hst hS hFc_2 rfl hd_2) rfl rfl hl.1 rfl (lv_room (Nat.le_of_ble_eq_true rfl)) dL_law_459 ⟨Nat.le_of_ble_eq_true rfl, Nat.le_of_ble_eq_true rfl⟩) hS (fun q _ h => hFc_2 q h) hFc_2 (fun r_2 u_2 t_2 H1 locs ht hvm h_2 hB hz1 hk1 hS => ?_)
  obtain ⟨wm_2, hIM, hP1, hD1⟩ := hB
  rw [ht] at hP1
  obtain ⟨hP, hD⟩ := jn2 hP hD hk1 hFc_2 hP1 hD1
  generalize H1 = H at hP hS ⊢
  refine W.widen (k := 277) (n := 3929) (Nat.le_of_ble_eq_true rfl) (Nat.le_of_ble_eq_true rfl) ?_
  refine lv_pop hx hb dL_law_462 rfl ?_
  refine lv_goto (tgt := 1357) hx hb dL_law_463 (by decide) ?_
  exact lw_tail hC0 hi ⟨⟨_, _, _, _, _, _, _, _, _, _, _, _, _, _, ok_cap hs, hIX, hIM⟩, hP, hD, hS, hl⟩ ih

set_option maxHeartbeats 4000000 in
set_option maxRecDepth 100000 in
theorem lw_c10 {p : Program} {l : Launch} {e : Env} {s : State} {m : MethodId} {below : List Frame} {meth : Method} {c : Code} {b L : Nat} {xs : Nat → Int32} {dC : Nat → ClassId} {dI : Nat → Nat → Nat} {cI cZ cL cJ : ClassId} {A : Nat → Prop} {H : Heap} {locs : List Loc} {ls : Array Slot} {x mo i : Nat} {wx wm : va_W} (hC : LCx p s m meth c b L xs dC dI cI cZ cL cJ A) (hi : 6 * i + 6 ≤ L) (hv : LIv dC dI cI cZ cL cJ A s b x mo i (wx, wm) H locs ls) (ih : ∀ (st2 : va_W × va_W) (H2 : Heap) (locs2 : List Loc) (ls2 : Array Slot), LIv dC dI cI cZ cL cJ A s b x mo (i + 1) st2 H2 locs2 ls2 → W p l e room_1 s m #[Value.ref b] below meth c H2 locs2 277 3929 (lw_Z below #[Value.ref b] s) (F0 m 18 ls2 [])) : W p l e room_1 s m #[Value.ref b] below meth c H locs 277 3929 (lw_Z below #[Value.ref b] s) (F0 m 466 ls []) := by
  have hC0 := hC
  obtain ⟨hx, hb, hr, hml, hown, hts, hX, hbl, hlocks, hAd, hA, hbA, hK, hst, hL⟩ := hC
  obtain ⟨⟨Rl, Rn, zt, Tb, lf, Lv, An, Ac, I0, I1, Tz, Tc, sg, It, hs, hIX, hIM⟩, hP, hD, hS, hl⟩ := hv
  refine lv_aload_n hx hb dL_law_466 rfl (lv_at hl 2 rfl) ?_
  refine lv_aload_n hx hb dL_law_467 rfl (lv_at hl 3 rfl) ?_
  refine lv_iload_n hx hb dL_law_468 rfl (lv_at hl 0 rfl) ?_
  refine lv_iconst (v := 1) hx hb dL_law_469 (by decide) ?_
  refine lv_iadd hx hb dL_law_470 ?_
  refine va_sld hx hb hX hbl hbA hS (sc_in (j := 1) (by decide) (by decide) hi hL) dL_law_471 ?_
  refine lv_topi (fun a_1 ea_1 => ?_)
  refine lv_aload_n hx hb dL_law_472 rfl (lv_at hl 3 rfl) ?_
  refine lv_iload_n hx hb dL_law_473 rfl (lv_at hl 0 rfl) ?_
  refine lv_iconst (v := 2) hx hb dL_law_474 (by decide) ?_
  refine lv_iadd hx hb dL_law_475 ?_
  refine va_sld hx hb hX hbl hbA hS (sc_in (j := 2) (by decide) (by decide) hi hL) dL_law_476 ?_
  refine lv_topi (fun a_2 ea_2 => ?_)
  obtain ⟨fs_3, hd_3⟩ := isx_hd (ys := wm) hIX
  have hFc_3 := fr_l hD hS hA
  refine va_calli (va_runV (As := [.int a_1, .int a_2]) (rest := []) ⟨hx, hb, hml, hown, hts⟩ (w_X7_wind l dC dI cI cZ cL cJ H.size x _ _ _ _ _ _ _ _ _ _ _ _ _ _ wx a_1 a_2 hs hIX) (cwV 2 hts gL_law_X7_wind rfl rfl rfl (by decide +kernel) ⟨Nat.le_of_ble_eq_true rfl, Nat.le_of_ble_eq_true rfl⟩) (pvL 7 hK hP hD hst hS hFc_3 rfl hd_3) rfl rfl hl.1 rfl (lv_room (Nat.le_of_ble_eq_true rfl)) dL_law_477 ⟨Nat.le_of_ble_eq_true rfl, Nat.le_of_ble_eq_true rfl⟩) hS (fun q _ h => hFc_3 q h) hFc_3 (fun r_3 u_3 t_3 H1 locs ht hvm h_3 hB hz1 hk1 hS => ?_)
  obtain ⟨wx_3, hIX, hP1, hD1⟩ := hB
  rw [ht] at hP1
  obtain ⟨hP, hD⟩ := jn2 hP hD hk1 hFc_3 hP1 hD1
  generalize H1 = H at hP hS ⊢
  refine W.widen (k := 277) (n := 3929) (Nat.le_of_ble_eq_true rfl) (Nat.le_of_ble_eq_true rfl) ?_
  refine lv_pop hx hb dL_law_480 rfl ?_
  refine lv_aload_n hx hb dL_law_481 rfl (lv_at hl 1 rfl) ?_
  refine lv_aload_n hx hb dL_law_482 rfl (lv_at hl 3 rfl) ?_
  refine lv_iload_n hx hb dL_law_483 rfl (lv_at hl 0 rfl) ?_
  refine lv_iconst (v := 1) hx hb dL_law_484 (by decide) ?_
  refine lv_iadd hx hb dL_law_485 ?_
  refine va_sld hx hb hX hbl hbA hS (sc_in (j := 1) (by decide) (by decide) hi hL) dL_law_486 ?_
  rw [← ea_1]
  refine lv_aload_n hx hb dL_law_487 rfl (lv_at hl 3 rfl) ?_
  refine lv_iload_n hx hb dL_law_488 rfl (lv_at hl 0 rfl) ?_
  refine lv_iconst (v := 2) hx hb dL_law_489 (by decide) ?_
  refine lv_iadd hx hb dL_law_490 ?_
  refine va_sld hx hb hX hbl hbA hS (sc_in (j := 2) (by decide) (by decide) hi hL) dL_law_491 ?_
  rw [← ea_2]
  obtain ⟨fs_6, hd_6⟩ := ism_hd (ys := wx_3) hIM
  have hFc_6 := fr_l hD hS hA
  refine va_calli (va_runV (As := [.int a_1, .int a_2]) (rest := []) ⟨hx, hb, hml, hown, hts⟩ (w_X8_wind l dC dI cI cZ cL cJ H.size mo _ _ _ _ _ _ _ _ _ _ _ _ _ _ wm a_1 a_2 hIM) (cwV 2 hts gL_law_X8_wind rfl rfl rfl (by decide +kernel) ⟨Nat.le_of_ble_eq_true rfl, Nat.le_of_ble_eq_true rfl⟩) (pvL 8 hK hP hD hst hS hFc_6 rfl hd_6) rfl rfl hl.1 rfl (lv_room (Nat.le_of_ble_eq_true rfl)) dL_law_492 ⟨Nat.le_of_ble_eq_true rfl, Nat.le_of_ble_eq_true rfl⟩) hS (fun q _ h => hFc_6 q h) hFc_6 (fun r_6 u_6 t_6 H1 locs ht hvm h_6 hB hz1 hk1 hS => ?_)
  obtain ⟨wm_6, hIM, hP1, hD1⟩ := hB
  rw [ht] at hP1
  obtain ⟨hP, hD⟩ := jn2 hP hD hk1 hFc_6 hP1 hD1
  generalize H1 = H at hP hS ⊢
  refine W.widen (k := 277) (n := 3929) (Nat.le_of_ble_eq_true rfl) (Nat.le_of_ble_eq_true rfl) ?_
  refine lv_pop hx hb dL_law_495 rfl ?_
  refine lv_goto (tgt := 1357) hx hb dL_law_496 (by decide) ?_
  exact lw_tail hC0 hi ⟨⟨_, _, _, _, _, _, _, _, _, _, _, _, _, _, ok_wind hs, hIX, hIM⟩, hP, hD, hS, hl⟩ ih

set_option maxHeartbeats 4000000 in
set_option maxRecDepth 100000 in
theorem lw_c11 {p : Program} {l : Launch} {e : Env} {s : State} {m : MethodId} {below : List Frame} {meth : Method} {c : Code} {b L : Nat} {xs : Nat → Int32} {dC : Nat → ClassId} {dI : Nat → Nat → Nat} {cI cZ cL cJ : ClassId} {A : Nat → Prop} {H : Heap} {locs : List Loc} {ls : Array Slot} {x mo i : Nat} {wx wm : va_W} (hC : LCx p s m meth c b L xs dC dI cI cZ cL cJ A) (hi : 6 * i + 6 ≤ L) (hv : LIv dC dI cI cZ cL cJ A s b x mo i (wx, wm) H locs ls) (ih : ∀ (st2 : va_W × va_W) (H2 : Heap) (locs2 : List Loc) (ls2 : Array Slot), LIv dC dI cI cZ cL cJ A s b x mo (i + 1) st2 H2 locs2 ls2 → W p l e room_1 s m #[Value.ref b] below meth c H2 locs2 277 3929 (lw_Z below #[Value.ref b] s) (F0 m 18 ls2 [])) : W p l e room_1 s m #[Value.ref b] below meth c H locs 277 3929 (lw_Z below #[Value.ref b] s) (F0 m 499 ls []) := by
  have hC0 := hC
  obtain ⟨hx, hb, hr, hml, hown, hts, hX, hbl, hlocks, hAd, hA, hbA, hK, hst, hL⟩ := hC
  obtain ⟨⟨Rl, Rn, zt, Tb, lf, Lv, An, Ac, I0, I1, Tz, Tc, sg, It, hs, hIX, hIM⟩, hP, hD, hS, hl⟩ := hv
  refine lv_aload_n hx hb dL_law_499 rfl (lv_at hl 2 rfl) ?_
  refine lv_aload_n hx hb dL_law_500 rfl (lv_at hl 3 rfl) ?_
  refine lv_iload_n hx hb dL_law_501 rfl (lv_at hl 0 rfl) ?_
  refine lv_iconst (v := 1) hx hb dL_law_502 (by decide) ?_
  refine lv_iadd hx hb dL_law_503 ?_
  refine va_sld hx hb hX hbl hbA hS (sc_in (j := 1) (by decide) (by decide) hi hL) dL_law_504 ?_
  refine lv_topi (fun a_1 ea_1 => ?_)
  refine lv_aload_n hx hb dL_law_505 rfl (lv_at hl 3 rfl) ?_
  refine lv_iload_n hx hb dL_law_506 rfl (lv_at hl 0 rfl) ?_
  refine lv_iconst (v := 2) hx hb dL_law_507 (by decide) ?_
  refine lv_iadd hx hb dL_law_508 ?_
  refine va_sld hx hb hX hbl hbA hS (sc_in (j := 2) (by decide) (by decide) hi hL) dL_law_509 ?_
  refine lv_topi (fun a_2 ea_2 => ?_)
  refine lv_aload_n hx hb dL_law_510 rfl (lv_at hl 3 rfl) ?_
  refine lv_iload_n hx hb dL_law_511 rfl (lv_at hl 0 rfl) ?_
  refine lv_iconst (v := 3) hx hb dL_law_512 (by decide) ?_
  refine lv_iadd hx hb dL_law_513 ?_
  refine va_sld hx hb hX hbl hbA hS (sc_in (j := 3) (by decide) (by decide) hi hL) dL_law_514 ?_
  refine lv_topi (fun a_3 ea_3 => ?_)
  obtain ⟨fs_4, hd_4⟩ := isx_hd (ys := wm) hIX
  have hFc_4 := fr_l hD hS hA
  refine va_calli (va_runV (As := [.int a_1, .int a_2, .int a_3]) (rest := []) ⟨hx, hb, hml, hown, hts⟩ (w_X7_loose l dC dI cI cZ cL cJ H.size x _ _ _ _ _ _ _ _ _ _ _ _ _ _ wx a_1 a_2 a_3 hs hIX) (cwV 3 hts gL_law_X7_loose rfl rfl rfl (by decide +kernel) ⟨Nat.le_of_ble_eq_true rfl, Nat.le_of_ble_eq_true rfl⟩) (pvL 7 hK hP hD hst hS hFc_4 rfl hd_4) rfl rfl hl.1 rfl (lv_room (Nat.le_of_ble_eq_true rfl)) dL_law_515 ⟨Nat.le_of_ble_eq_true rfl, Nat.le_of_ble_eq_true rfl⟩) hS (fun q _ h => hFc_4 q h) hFc_4 (fun r_4 u_4 t_4 H1 locs ht hvm h_4 hB hz1 hk1 hS => ?_)
  obtain ⟨wx_4, hIX, hP1, hD1⟩ := hB
  rw [ht] at hP1
  obtain ⟨hP, hD⟩ := jn2 hP hD hk1 hFc_4 hP1 hD1
  generalize H1 = H at hP hS ⊢
  refine W.widen (k := 277) (n := 3929) (Nat.le_of_ble_eq_true rfl) (Nat.le_of_ble_eq_true rfl) ?_
  refine lv_pop hx hb dL_law_518 rfl ?_
  refine lv_aload_n hx hb dL_law_519 rfl (lv_at hl 1 rfl) ?_
  refine lv_aload_n hx hb dL_law_520 rfl (lv_at hl 3 rfl) ?_
  refine lv_iload_n hx hb dL_law_521 rfl (lv_at hl 0 rfl) ?_
  refine lv_iconst (v := 1) hx hb dL_law_522 (by decide) ?_
  refine lv_iadd hx hb dL_law_523 ?_
  refine va_sld hx hb hX hbl hbA hS (sc_in (j := 1) (by decide) (by decide) hi hL) dL_law_524 ?_
  rw [← ea_1]
  refine lv_aload_n hx hb dL_law_525 rfl (lv_at hl 3 rfl) ?_
  refine lv_iload_n hx hb dL_law_526 rfl (lv_at hl 0 rfl) ?_
  refine lv_iconst (v := 2) hx hb dL_law_527 (by decide) ?_
  refine lv_iadd hx hb dL_law_528 ?_
  refine va_sld hx hb hX hbl hbA hS (sc_in (j := 2) (by decide) (by decide) hi hL) dL_law_529 ?_
  rw [← ea_2]
  refine lv_aload_n hx hb dL_law_530 rfl (lv_at hl 3 rfl) ?_
  refine lv_iload_n hx hb dL_law_531 rfl (lv_at hl 0 rfl) ?_
  refine lv_iconst (v := 3) hx hb dL_law_532 (by decide) ?_
  refine lv_iadd hx hb dL_law_533 ?_
  refine va_sld hx hb hX hbl hbA hS (sc_in (j := 3) (by decide) (by decide) hi hL) dL_law_534 ?_
  rw [← ea_3]
  obtain ⟨fs_8, hd_8⟩ := ism_hd (ys := wx_4) hIM
  have hFc_8 := fr_l hD hS hA
  refine va_calli (va_runV (As := [.int a_1, .int a_2, .int a_3]) (rest := []) ⟨hx, hb, hml, hown, hts⟩ (w_X8_loose l dC dI cI cZ cL cJ H.size mo _ _ _ _ _ _ _ _ _ _ _ _ _ _ wm a_1 a_2 a_3 hIM) (cwV 3 hts gL_law_X8_loose rfl rfl rfl (by decide +kernel) ⟨Nat.le_of_ble_eq_true rfl, Nat.le_of_ble_eq_true rfl⟩) (pvL 8 hK hP hD hst hS hFc_8 rfl hd_8) rfl rfl hl.1 rfl (lv_room (Nat.le_of_ble_eq_true rfl)) dL_law_535 ⟨Nat.le_of_ble_eq_true rfl, Nat.le_of_ble_eq_true rfl⟩) hS (fun q _ h => hFc_8 q h) hFc_8 (fun r_8 u_8 t_8 H1 locs ht hvm h_8 hB hz1 hk1 hS => ?_)
  obtain ⟨wm_8, hIM, hP1, hD1⟩ := hB
  rw [ht] at hP1
  obtain ⟨hP, hD⟩ := jn2 hP hD hk1 hFc_8 hP1 hD1
  generalize H1 = H at hP hS ⊢
  refine W.widen (k := 277) (n := 3929) (Nat.le_of_ble_eq_true rfl) (Nat.le_of_ble_eq_true rfl) ?_
  refine lv_pop hx hb dL_law_538 rfl ?_
  refine lv_goto (tgt := 1357) hx hb dL_law_539 (by decide) ?_
  exact lw_tail hC0 hi ⟨⟨_, _, _, _, _, _, _, _, _, _, _, _, _, _, ok_loos hs, hIX, hIM⟩, hP, hD, hS, hl⟩ ih

set_option maxHeartbeats 4000000 in
set_option maxRecDepth 100000 in
theorem lw_c12 {p : Program} {l : Launch} {e : Env} {s : State} {m : MethodId} {below : List Frame} {meth : Method} {c : Code} {b L : Nat} {xs : Nat → Int32} {dC : Nat → ClassId} {dI : Nat → Nat → Nat} {cI cZ cL cJ : ClassId} {A : Nat → Prop} {H : Heap} {locs : List Loc} {ls : Array Slot} {x mo i : Nat} {wx wm : va_W} (hC : LCx p s m meth c b L xs dC dI cI cZ cL cJ A) (hi : 6 * i + 6 ≤ L) (hv : LIv dC dI cI cZ cL cJ A s b x mo i (wx, wm) H locs ls) (ih : ∀ (st2 : va_W × va_W) (H2 : Heap) (locs2 : List Loc) (ls2 : Array Slot), LIv dC dI cI cZ cL cJ A s b x mo (i + 1) st2 H2 locs2 ls2 → W p l e room_1 s m #[Value.ref b] below meth c H2 locs2 277 3929 (lw_Z below #[Value.ref b] s) (F0 m 18 ls2 [])) : W p l e room_1 s m #[Value.ref b] below meth c H locs 277 3929 (lw_Z below #[Value.ref b] s) (F0 m 542 ls []) := by
  have hC0 := hC
  obtain ⟨hx, hb, hr, hml, hown, hts, hX, hbl, hlocks, hAd, hA, hbA, hK, hst, hL⟩ := hC
  obtain ⟨⟨Rl, Rn, zt, Tb, lf, Lv, An, Ac, I0, I1, Tz, Tc, sg, It, hs, hIX, hIM⟩, hP, hD, hS, hl⟩ := hv
  refine lv_aload_n hx hb dL_law_542 rfl (lv_at hl 2 rfl) ?_
  refine lv_aload_n hx hb dL_law_543 rfl (lv_at hl 3 rfl) ?_
  refine lv_iload_n hx hb dL_law_544 rfl (lv_at hl 0 rfl) ?_
  refine lv_iconst (v := 1) hx hb dL_law_545 (by decide) ?_
  refine lv_iadd hx hb dL_law_546 ?_
  refine va_sld hx hb hX hbl hbA hS (sc_in (j := 1) (by decide) (by decide) hi hL) dL_law_547 ?_
  refine lv_topi (fun a_1 ea_1 => ?_)
  obtain ⟨fs_2, hd_2⟩ := isx_hd (ys := wm) hIX
  have hFc_2 := fr_l hD hS hA
  refine va_calli (va_runV (As := [.int a_1]) (rest := []) ⟨hx, hb, hml, hown, hts⟩ (w_X7_sell l dC dI cI cZ cL cJ H.size x _ _ _ _ _ _ _ _ _ _ _ _ _ _ wx a_1 hs hIX) (cwV 1 hts gL_law_X7_sell rfl rfl rfl (by decide +kernel) ⟨Nat.le_of_ble_eq_true rfl, Nat.le_of_ble_eq_true rfl⟩) (pvL 7 hK hP hD hst hS hFc_2 rfl hd_2) rfl rfl hl.1 rfl (lv_room (Nat.le_of_ble_eq_true rfl)) dL_law_548 ⟨Nat.le_of_ble_eq_true rfl, Nat.le_of_ble_eq_true rfl⟩) hS (fun q _ h => hFc_2 q h) hFc_2 (fun r_2 u_2 t_2 H1 locs ht hvm h_2 hB hz1 hk1 hS => ?_)
  obtain ⟨wx_2, hIX, hP1, hD1⟩ := hB
  rw [ht] at hP1
  obtain ⟨hP, hD⟩ := jn2 hP hD hk1 hFc_2 hP1 hD1
  generalize H1 = H at hP hS ⊢
  refine W.widen (k := 277) (n := 3929) (Nat.le_of_ble_eq_true rfl) (Nat.le_of_ble_eq_true rfl) ?_
  refine lv_pop hx hb dL_law_551 rfl ?_
  refine lv_aload_n hx hb dL_law_552 rfl (lv_at hl 1 rfl) ?_
  refine lv_aload_n hx hb dL_law_553 rfl (lv_at hl 3 rfl) ?_
  refine lv_iload_n hx hb dL_law_554 rfl (lv_at hl 0 rfl) ?_
  refine lv_iconst (v := 1) hx hb dL_law_555 (by decide) ?_
  refine lv_iadd hx hb dL_law_556 ?_
  refine va_sld hx hb hX hbl hbA hS (sc_in (j := 1) (by decide) (by decide) hi hL) dL_law_557 ?_
  rw [← ea_1]
  obtain ⟨fs_4, hd_4⟩ := ism_hd (ys := wx_2) hIM
  have hFc_4 := fr_l hD hS hA
  refine va_calli (va_runV (As := [.int a_1]) (rest := []) ⟨hx, hb, hml, hown, hts⟩ (w_X8_sell l dC dI cI cZ cL cJ H.size mo _ _ _ _ _ _ _ _ _ _ _ _ _ _ wm a_1 hIM) (cwV 1 hts gL_law_X8_sell rfl rfl rfl (by decide +kernel) ⟨Nat.le_of_ble_eq_true rfl, Nat.le_of_ble_eq_true rfl⟩) (pvL 8 hK hP hD hst hS hFc_4 rfl hd_4) rfl rfl hl.1 rfl (lv_room (Nat.le_of_ble_eq_true rfl)) dL_law_558 ⟨Nat.le_of_ble_eq_true rfl, Nat.le_of_ble_eq_true rfl⟩) hS (fun q _ h => hFc_4 q h) hFc_4 (fun r_4 u_4 t_4 H1 locs ht hvm h_4 hB hz1 hk1 hS => ?_)
  obtain ⟨wm_4, hIM, hP1, hD1⟩ := hB
  rw [ht] at hP1
  obtain ⟨hP, hD⟩ := jn2 hP hD hk1 hFc_4 hP1 hD1
  generalize H1 = H at hP hS ⊢
  refine W.widen (k := 277) (n := 3929) (Nat.le_of_ble_eq_true rfl) (Nat.le_of_ble_eq_true rfl) ?_
  refine lv_pop hx hb dL_law_561 rfl ?_
  refine lv_goto (tgt := 1357) hx hb dL_law_562 (by decide) ?_
  exact lw_tail hC0 hi ⟨⟨_, _, _, _, _, _, _, _, _, _, _, _, _, _, ok_sell hs, hIX, hIM⟩, hP, hD, hS, hl⟩ ih

-- 79.lawc1
set_option maxHeartbeats 4000000 in
set_option maxRecDepth 100000 in
theorem lw_c13 {p : Program} {l : Launch} {e : Env} {s : State} {m : MethodId} {below : List Frame} {meth : Method} {c : Code} {b L : Nat} {xs : Nat → Int32} {dC : Nat → ClassId} {dI : Nat → Nat → Nat} {cI cZ cL cJ : ClassId} {A : Nat → Prop} {H : Heap} {locs : List Loc} {ls : Array Slot} {x mo i : Nat} {wx wm : va_W} (hC : LCx p s m meth c b L xs dC dI cI cZ cL cJ A) (hi : 6 * i + 6 ≤ L) (hv : LIv dC dI cI cZ cL cJ A s b x mo i (wx, wm) H locs ls) (ih : ∀ (st2 : va_W × va_W) (H2 : Heap) (locs2 : List Loc) (ls2 : Array Slot), LIv dC dI cI cZ cL cJ A s b x mo (i + 1) st2 H2 locs2 ls2 → W p l e room_1 s m #[Value.ref b] below meth c H2 locs2 277 3929 (lw_Z below #[Value.ref b] s) (F0 m 18 ls2 [])) : W p l e room_1 s m #[Value.ref b] below meth c H locs 277 3929 (lw_Z below #[Value.ref b] s) (F0 m 565 ls []) := by
  have hC0 := hC
  obtain ⟨hx, hb, hr, hml, hown, hts, hX, hbl, hlocks, hAd, hA, hbA, hK, hst, hL⟩ := hC
  obtain ⟨⟨Rl, Rn, zt, Tb, lf, Lv, An, Ac, I0, I1, Tz, Tc, sg, It, hs, hIX, hIM⟩, hP, hD, hS, hl⟩ := hv
  refine lv_aload_n hx hb dL_law_565 rfl (lv_at hl 2 rfl) ?_
  refine lv_aload_n hx hb dL_law_566 rfl (lv_at hl 3 rfl) ?_
  refine lv_iload_n hx hb dL_law_567 rfl (lv_at hl 0 rfl) ?_
  refine lv_iconst (v := 1) hx hb dL_law_568 (by decide) ?_
  refine lv_iadd hx hb dL_law_569 ?_
  refine va_sld hx hb hX hbl hbA hS (sc_in (j := 1) (by decide) (by decide) hi hL) dL_law_570 ?_
  refine lv_topi (fun a_1 ea_1 => ?_)
  refine lv_aload_n hx hb dL_law_571 rfl (lv_at hl 3 rfl) ?_
  refine lv_iload_n hx hb dL_law_572 rfl (lv_at hl 0 rfl) ?_
  refine lv_iconst (v := 2) hx hb dL_law_573 (by decide) ?_
  refine lv_iadd hx hb dL_law_574 ?_
  refine va_sld hx hb hX hbl hbA hS (sc_in (j := 2) (by decide) (by decide) hi hL) dL_law_575 ?_
  refine lv_topi (fun a_2 ea_2 => ?_)
  obtain ⟨fs_3, hd_3⟩ := isx_hd (ys := wm) hIX
  have hFc_3 := fr_l hD hS hA
  refine va_calli (va_runV (As := [.int a_1, .int a_2]) (rest := []) ⟨hx, hb, hml, hown, hts⟩ (w_X7_sound l dC dI cI cZ cL cJ H.size x _ _ _ _ _ _ _ _ _ _ _ _ _ _ wx a_1 a_2 hs hIX) (cwV 2 hts gL_law_X7_sound rfl rfl rfl (by decide +kernel) ⟨Nat.le_of_ble_eq_true rfl, Nat.le_of_ble_eq_true rfl⟩) (pvL 7 hK hP hD hst hS hFc_3 rfl hd_3) rfl rfl hl.1 rfl (lv_room (Nat.le_of_ble_eq_true rfl)) dL_law_576 ⟨Nat.le_of_ble_eq_true rfl, Nat.le_of_ble_eq_true rfl⟩) hS (fun q _ h => hFc_3 q h) hFc_3 (fun r_3 u_3 t_3 H1 locs ht hvm h_3 hB hz1 hk1 hS => ?_)
  obtain ⟨wx_3, hIX, hP1, hD1⟩ := hB
  rw [ht] at hP1
  obtain ⟨hP, hD⟩ := jn2 hP hD hk1 hFc_3 hP1 hD1
  generalize H1 = H at hP hS ⊢
  refine W.widen (k := 277) (n := 3929) (Nat.le_of_ble_eq_true rfl) (Nat.le_of_ble_eq_true rfl) ?_
  refine lv_pop hx hb dL_law_579 rfl ?_
  refine lv_aload_n hx hb dL_law_580 rfl (lv_at hl 1 rfl) ?_
  refine lv_aload_n hx hb dL_law_581 rfl (lv_at hl 3 rfl) ?_
  refine lv_iload_n hx hb dL_law_582 rfl (lv_at hl 0 rfl) ?_
  refine lv_iconst (v := 1) hx hb dL_law_583 (by decide) ?_
  refine lv_iadd hx hb dL_law_584 ?_
  refine va_sld hx hb hX hbl hbA hS (sc_in (j := 1) (by decide) (by decide) hi hL) dL_law_585 ?_
  rw [← ea_1]
  refine lv_aload_n hx hb dL_law_586 rfl (lv_at hl 3 rfl) ?_
  refine lv_iload_n hx hb dL_law_587 rfl (lv_at hl 0 rfl) ?_
  refine lv_iconst (v := 2) hx hb dL_law_588 (by decide) ?_
  refine lv_iadd hx hb dL_law_589 ?_
  refine va_sld hx hb hX hbl hbA hS (sc_in (j := 2) (by decide) (by decide) hi hL) dL_law_590 ?_
  rw [← ea_2]
  obtain ⟨fs_6, hd_6⟩ := ism_hd (ys := wx_3) hIM
  have hFc_6 := fr_l hD hS hA
  refine va_calli (va_runV (As := [.int a_1, .int a_2]) (rest := []) ⟨hx, hb, hml, hown, hts⟩ (w_X8_sound l dC dI cI cZ cL cJ H.size mo _ _ _ _ _ _ _ _ _ _ _ _ _ _ wm a_1 a_2 hIM) (cwV 2 hts gL_law_X8_sound rfl rfl rfl (by decide +kernel) ⟨Nat.le_of_ble_eq_true rfl, Nat.le_of_ble_eq_true rfl⟩) (pvL 8 hK hP hD hst hS hFc_6 rfl hd_6) rfl rfl hl.1 rfl (lv_room (Nat.le_of_ble_eq_true rfl)) dL_law_591 ⟨Nat.le_of_ble_eq_true rfl, Nat.le_of_ble_eq_true rfl⟩) hS (fun q _ h => hFc_6 q h) hFc_6 (fun r_6 u_6 t_6 H1 locs ht hvm h_6 hB hz1 hk1 hS => ?_)
  obtain ⟨wm_6, hIM, hP1, hD1⟩ := hB
  rw [ht] at hP1
  obtain ⟨hP, hD⟩ := jn2 hP hD hk1 hFc_6 hP1 hD1
  generalize H1 = H at hP hS ⊢
  refine W.widen (k := 277) (n := 3929) (Nat.le_of_ble_eq_true rfl) (Nat.le_of_ble_eq_true rfl) ?_
  refine lv_pop hx hb dL_law_594 rfl ?_
  refine lv_goto (tgt := 1357) hx hb dL_law_595 (by decide) ?_
  exact lw_tail hC0 hi ⟨⟨_, _, _, _, _, _, _, _, _, _, _, _, _, _, hs, hIX, hIM⟩, hP, hD, hS, hl⟩ ih

set_option maxHeartbeats 4000000 in
set_option maxRecDepth 100000 in
theorem lw_c14 {p : Program} {l : Launch} {e : Env} {s : State} {m : MethodId} {below : List Frame} {meth : Method} {c : Code} {b L : Nat} {xs : Nat → Int32} {dC : Nat → ClassId} {dI : Nat → Nat → Nat} {cI cZ cL cJ : ClassId} {A : Nat → Prop} {H : Heap} {locs : List Loc} {ls : Array Slot} {x mo i : Nat} {wx wm : va_W} (hC : LCx p s m meth c b L xs dC dI cI cZ cL cJ A) (hi : 6 * i + 6 ≤ L) (hv : LIv dC dI cI cZ cL cJ A s b x mo i (wx, wm) H locs ls) (ih : ∀ (st2 : va_W × va_W) (H2 : Heap) (locs2 : List Loc) (ls2 : Array Slot), LIv dC dI cI cZ cL cJ A s b x mo (i + 1) st2 H2 locs2 ls2 → W p l e room_1 s m #[Value.ref b] below meth c H2 locs2 277 3929 (lw_Z below #[Value.ref b] s) (F0 m 18 ls2 [])) : W p l e room_1 s m #[Value.ref b] below meth c H locs 277 3929 (lw_Z below #[Value.ref b] s) (F0 m 598 ls []) := by
  have hC0 := hC
  obtain ⟨hx, hb, hr, hml, hown, hts, hX, hbl, hlocks, hAd, hA, hbA, hK, hst, hL⟩ := hC
  obtain ⟨⟨Rl, Rn, zt, Tb, lf, Lv, An, Ac, I0, I1, Tz, Tc, sg, It, hs, hIX, hIM⟩, hP, hD, hS, hl⟩ := hv
  refine lv_aload_n hx hb dL_law_598 rfl (lv_at hl 2 rfl) ?_
  refine lv_aload_n hx hb dL_law_599 rfl (lv_at hl 3 rfl) ?_
  refine lv_iload_n hx hb dL_law_600 rfl (lv_at hl 0 rfl) ?_
  refine lv_iconst (v := 1) hx hb dL_law_601 (by decide) ?_
  refine lv_iadd hx hb dL_law_602 ?_
  refine va_sld hx hb hX hbl hbA hS (sc_in (j := 1) (by decide) (by decide) hi hL) dL_law_603 ?_
  refine lv_topi (fun a_1 ea_1 => ?_)
  obtain ⟨fs_2, hd_2⟩ := isx_hd (ys := wm) hIX
  have hFc_2 := fr_l hD hS hA
  refine va_calli (va_runV (As := [.int a_1]) (rest := []) ⟨hx, hb, hml, hown, hts⟩ (w_X7_stand l dC dI cI cZ cL cJ H.size x _ _ _ _ _ _ _ _ _ _ _ _ _ _ wx a_1 hs hIX) (cwV 1 hts gL_law_X7_stand rfl rfl rfl (by decide +kernel) ⟨Nat.le_of_ble_eq_true rfl, Nat.le_of_ble_eq_true rfl⟩) (pvL 7 hK hP hD hst hS hFc_2 rfl hd_2) rfl rfl hl.1 rfl (lv_room (Nat.le_of_ble_eq_true rfl)) dL_law_604 ⟨Nat.le_of_ble_eq_true rfl, Nat.le_of_ble_eq_true rfl⟩) hS (fun q _ h => hFc_2 q h) hFc_2 (fun r_2 u_2 t_2 H1 locs ht hvm h_2 hB hz1 hk1 hS => ?_)
  obtain ⟨wx_2, hIX, hP1, hD1⟩ := hB
  rw [ht] at hP1
  obtain ⟨hP, hD⟩ := jn2 hP hD hk1 hFc_2 hP1 hD1
  generalize H1 = H at hP hS ⊢
  refine W.widen (k := 277) (n := 3929) (Nat.le_of_ble_eq_true rfl) (Nat.le_of_ble_eq_true rfl) ?_
  refine lv_pop hx hb dL_law_607 rfl ?_
  refine lv_aload_n hx hb dL_law_608 rfl (lv_at hl 1 rfl) ?_
  refine lv_aload_n hx hb dL_law_609 rfl (lv_at hl 3 rfl) ?_
  refine lv_iload_n hx hb dL_law_610 rfl (lv_at hl 0 rfl) ?_
  refine lv_iconst (v := 1) hx hb dL_law_611 (by decide) ?_
  refine lv_iadd hx hb dL_law_612 ?_
  refine va_sld hx hb hX hbl hbA hS (sc_in (j := 1) (by decide) (by decide) hi hL) dL_law_613 ?_
  rw [← ea_1]
  obtain ⟨fs_4, hd_4⟩ := ism_hd (ys := wx_2) hIM
  have hFc_4 := fr_l hD hS hA
  refine va_calli (va_runV (As := [.int a_1]) (rest := []) ⟨hx, hb, hml, hown, hts⟩ (w_X8_stand l dC dI cI cZ cL cJ H.size mo _ _ _ _ _ _ _ _ _ _ _ _ _ _ wm a_1 hIM) (cwV 1 hts gL_law_X8_stand rfl rfl rfl (by decide +kernel) ⟨Nat.le_of_ble_eq_true rfl, Nat.le_of_ble_eq_true rfl⟩) (pvL 8 hK hP hD hst hS hFc_4 rfl hd_4) rfl rfl hl.1 rfl (lv_room (Nat.le_of_ble_eq_true rfl)) dL_law_614 ⟨Nat.le_of_ble_eq_true rfl, Nat.le_of_ble_eq_true rfl⟩) hS (fun q _ h => hFc_4 q h) hFc_4 (fun r_4 u_4 t_4 H1 locs ht hvm h_4 hB hz1 hk1 hS => ?_)
  obtain ⟨wm_4, hIM, hP1, hD1⟩ := hB
  rw [ht] at hP1
  obtain ⟨hP, hD⟩ := jn2 hP hD hk1 hFc_4 hP1 hD1
  generalize H1 = H at hP hS ⊢
  refine W.widen (k := 277) (n := 3929) (Nat.le_of_ble_eq_true rfl) (Nat.le_of_ble_eq_true rfl) ?_
  refine lv_pop hx hb dL_law_617 rfl ?_
  refine lv_goto (tgt := 1357) hx hb dL_law_618 (by decide) ?_
  exact lw_tail hC0 hi ⟨⟨_, _, _, _, _, _, _, _, _, _, _, _, _, _, hs, hIX, hIM⟩, hP, hD, hS, hl⟩ ih

set_option maxHeartbeats 4000000 in
set_option maxRecDepth 100000 in
theorem lw_c15 {p : Program} {l : Launch} {e : Env} {s : State} {m : MethodId} {below : List Frame} {meth : Method} {c : Code} {b L : Nat} {xs : Nat → Int32} {dC : Nat → ClassId} {dI : Nat → Nat → Nat} {cI cZ cL cJ : ClassId} {A : Nat → Prop} {H : Heap} {locs : List Loc} {ls : Array Slot} {x mo i : Nat} {wx wm : va_W} (hC : LCx p s m meth c b L xs dC dI cI cZ cL cJ A) (hi : 6 * i + 6 ≤ L) (hv : LIv dC dI cI cZ cL cJ A s b x mo i (wx, wm) H locs ls) (ih : ∀ (st2 : va_W × va_W) (H2 : Heap) (locs2 : List Loc) (ls2 : Array Slot), LIv dC dI cI cZ cL cJ A s b x mo (i + 1) st2 H2 locs2 ls2 → W p l e room_1 s m #[Value.ref b] below meth c H2 locs2 277 3929 (lw_Z below #[Value.ref b] s) (F0 m 18 ls2 [])) : W p l e room_1 s m #[Value.ref b] below meth c H locs 277 3929 (lw_Z below #[Value.ref b] s) (F0 m 621 ls []) := by
  have hC0 := hC
  obtain ⟨hx, hb, hr, hml, hown, hts, hX, hbl, hlocks, hAd, hA, hbA, hK, hst, hL⟩ := hC
  obtain ⟨⟨Rl, Rn, zt, Tb, lf, Lv, An, Ac, I0, I1, Tz, Tc, sg, It, hs, hIX, hIM⟩, hP, hD, hS, hl⟩ := hv
  refine lv_aload_n hx hb dL_law_621 rfl (lv_at hl 2 rfl) ?_
  refine lv_aload_n hx hb dL_law_622 rfl (lv_at hl 3 rfl) ?_
  refine lv_iload_n hx hb dL_law_623 rfl (lv_at hl 0 rfl) ?_
  refine lv_iconst (v := 1) hx hb dL_law_624 (by decide) ?_
  refine lv_iadd hx hb dL_law_625 ?_
  refine va_sld hx hb hX hbl hbA hS (sc_in (j := 1) (by decide) (by decide) hi hL) dL_law_626 ?_
  refine lv_topi (fun a_1 ea_1 => ?_)
  obtain ⟨fs_2, hd_2⟩ := isx_hd (ys := wm) hIX
  have hFc_2 := fr_l hD hS hA
  refine va_calli (va_runV (As := [.int a_1]) (rest := []) ⟨hx, hb, hml, hown, hts⟩ (w_X7_gust l dC dI cI cZ cL cJ H.size x _ _ _ _ _ _ _ _ _ _ _ _ _ _ wx a_1 hs hIX) (cwV 1 hts gL_law_X7_gust rfl rfl rfl (by decide +kernel) ⟨Nat.le_of_ble_eq_true rfl, Nat.le_of_ble_eq_true rfl⟩) (pvL 7 hK hP hD hst hS hFc_2 rfl hd_2) rfl rfl hl.1 rfl (lv_room (Nat.le_of_ble_eq_true rfl)) dL_law_627 ⟨Nat.le_of_ble_eq_true rfl, Nat.le_of_ble_eq_true rfl⟩) hS (fun q _ h => hFc_2 q h) hFc_2 (fun r_2 u_2 t_2 H1 locs ht hvm h_2 hB hz1 hk1 hS => ?_)
  obtain ⟨wx_2, hIX, hP1, hD1⟩ := hB
  rw [ht] at hP1
  obtain ⟨hP, hD⟩ := jn2 hP hD hk1 hFc_2 hP1 hD1
  generalize H1 = H at hP hS ⊢
  refine W.widen (k := 277) (n := 3929) (Nat.le_of_ble_eq_true rfl) (Nat.le_of_ble_eq_true rfl) ?_
  refine lv_pop hx hb dL_law_630 rfl ?_
  refine lv_aload_n hx hb dL_law_631 rfl (lv_at hl 1 rfl) ?_
  refine lv_aload_n hx hb dL_law_632 rfl (lv_at hl 3 rfl) ?_
  refine lv_iload_n hx hb dL_law_633 rfl (lv_at hl 0 rfl) ?_
  refine lv_iconst (v := 1) hx hb dL_law_634 (by decide) ?_
  refine lv_iadd hx hb dL_law_635 ?_
  refine va_sld hx hb hX hbl hbA hS (sc_in (j := 1) (by decide) (by decide) hi hL) dL_law_636 ?_
  rw [← ea_1]
  obtain ⟨fs_4, hd_4⟩ := ism_hd (ys := wx_2) hIM
  have hFc_4 := fr_l hD hS hA
  refine va_calli (va_runV (As := [.int a_1]) (rest := []) ⟨hx, hb, hml, hown, hts⟩ (w_X8_gust l dC dI cI cZ cL cJ H.size mo _ _ _ _ _ _ _ _ _ _ _ _ _ _ wm a_1 hIM) (cwV 1 hts gL_law_X8_gust rfl rfl rfl (by decide +kernel) ⟨Nat.le_of_ble_eq_true rfl, Nat.le_of_ble_eq_true rfl⟩) (pvL 8 hK hP hD hst hS hFc_4 rfl hd_4) rfl rfl hl.1 rfl (lv_room (Nat.le_of_ble_eq_true rfl)) dL_law_637 ⟨Nat.le_of_ble_eq_true rfl, Nat.le_of_ble_eq_true rfl⟩) hS (fun q _ h => hFc_4 q h) hFc_4 (fun r_4 u_4 t_4 H1 locs ht hvm h_4 hB hz1 hk1 hS => ?_)
  obtain ⟨wm_4, hIM, hP1, hD1⟩ := hB
  rw [ht] at hP1
  obtain ⟨hP, hD⟩ := jn2 hP hD hk1 hFc_4 hP1 hD1
  generalize H1 = H at hP hS ⊢
  refine W.widen (k := 277) (n := 3929) (Nat.le_of_ble_eq_true rfl) (Nat.le_of_ble_eq_true rfl) ?_
  refine lv_pop hx hb dL_law_640 rfl ?_
  refine lv_goto (tgt := 1357) hx hb dL_law_641 (by decide) ?_
  exact lw_tail hC0 hi ⟨⟨_, _, _, _, _, _, _, _, _, _, _, _, _, _, hs, hIX, hIM⟩, hP, hD, hS, hl⟩ ih

set_option maxHeartbeats 4000000 in
set_option maxRecDepth 100000 in
theorem lw_c16 {p : Program} {l : Launch} {e : Env} {s : State} {m : MethodId} {below : List Frame} {meth : Method} {c : Code} {b L : Nat} {xs : Nat → Int32} {dC : Nat → ClassId} {dI : Nat → Nat → Nat} {cI cZ cL cJ : ClassId} {A : Nat → Prop} {H : Heap} {locs : List Loc} {ls : Array Slot} {x mo i : Nat} {wx wm : va_W} (hC : LCx p s m meth c b L xs dC dI cI cZ cL cJ A) (hi : 6 * i + 6 ≤ L) (hv : LIv dC dI cI cZ cL cJ A s b x mo i (wx, wm) H locs ls) (ih : ∀ (st2 : va_W × va_W) (H2 : Heap) (locs2 : List Loc) (ls2 : Array Slot), LIv dC dI cI cZ cL cJ A s b x mo (i + 1) st2 H2 locs2 ls2 → W p l e room_1 s m #[Value.ref b] below meth c H2 locs2 277 3929 (lw_Z below #[Value.ref b] s) (F0 m 18 ls2 [])) : W p l e room_1 s m #[Value.ref b] below meth c H locs 277 3929 (lw_Z below #[Value.ref b] s) (F0 m 644 ls []) := by
  have hC0 := hC
  obtain ⟨hx, hb, hr, hml, hown, hts, hX, hbl, hlocks, hAd, hA, hbA, hK, hst, hL⟩ := hC
  obtain ⟨⟨Rl, Rn, zt, Tb, lf, Lv, An, Ac, I0, I1, Tz, Tc, sg, It, hs, hIX, hIM⟩, hP, hD, hS, hl⟩ := hv
  refine lv_aload_n hx hb dL_law_644 rfl (lv_at hl 2 rfl) ?_
  refine lv_aload_n hx hb dL_law_645 rfl (lv_at hl 3 rfl) ?_
  refine lv_iload_n hx hb dL_law_646 rfl (lv_at hl 0 rfl) ?_
  refine lv_iconst (v := 1) hx hb dL_law_647 (by decide) ?_
  refine lv_iadd hx hb dL_law_648 ?_
  refine va_sld hx hb hX hbl hbA hS (sc_in (j := 1) (by decide) (by decide) hi hL) dL_law_649 ?_
  refine lv_topi (fun a_1 ea_1 => ?_)
  refine lv_aload_n hx hb dL_law_650 rfl (lv_at hl 3 rfl) ?_
  refine lv_iload_n hx hb dL_law_651 rfl (lv_at hl 0 rfl) ?_
  refine lv_iconst (v := 2) hx hb dL_law_652 (by decide) ?_
  refine lv_iadd hx hb dL_law_653 ?_
  refine va_sld hx hb hX hbl hbA hS (sc_in (j := 2) (by decide) (by decide) hi hL) dL_law_654 ?_
  refine lv_topi (fun a_2 ea_2 => ?_)
  refine lv_aload_n hx hb dL_law_655 rfl (lv_at hl 3 rfl) ?_
  refine lv_iload_n hx hb dL_law_656 rfl (lv_at hl 0 rfl) ?_
  refine lv_iconst (v := 3) hx hb dL_law_657 (by decide) ?_
  refine lv_iadd hx hb dL_law_658 ?_
  refine va_sld hx hb hX hbl hbA hS (sc_in (j := 3) (by decide) (by decide) hi hL) dL_law_659 ?_
  refine lv_topi (fun a_3 ea_3 => ?_)
  obtain ⟨fs_4, hd_4⟩ := isx_hd (ys := wm) hIX
  have hFc_4 := fr_l hD hS hA
  refine va_calli (va_runV (As := [.int a_1, .int a_2, .int a_3]) (rest := []) ⟨hx, hb, hml, hown, hts⟩ (w_X7_ahead l dC dI cI cZ cL cJ H.size x _ _ _ _ _ _ _ _ _ _ _ _ _ _ wx a_1 a_2 a_3 hs hIX) (cwV 3 hts gL_law_X7_ahead rfl rfl rfl (by decide +kernel) ⟨Nat.le_of_ble_eq_true rfl, Nat.le_of_ble_eq_true rfl⟩) (pvL 7 hK hP hD hst hS hFc_4 rfl hd_4) rfl rfl hl.1 rfl (lv_room (Nat.le_of_ble_eq_true rfl)) dL_law_660 ⟨Nat.le_of_ble_eq_true rfl, Nat.le_of_ble_eq_true rfl⟩) hS (fun q _ h => hFc_4 q h) hFc_4 (fun r_4 u_4 t_4 H1 locs ht hvm h_4 hB hz1 hk1 hS => ?_)
  obtain ⟨wx_4, hIX, hP1, hD1⟩ := hB
  rw [ht] at hP1
  obtain ⟨hP, hD⟩ := jn2 hP hD hk1 hFc_4 hP1 hD1
  generalize H1 = H at hP hS ⊢
  refine W.widen (k := 277) (n := 3929) (Nat.le_of_ble_eq_true rfl) (Nat.le_of_ble_eq_true rfl) ?_
  refine lv_pop hx hb dL_law_663 rfl ?_
  refine lv_aload_n hx hb dL_law_664 rfl (lv_at hl 1 rfl) ?_
  refine lv_aload_n hx hb dL_law_665 rfl (lv_at hl 3 rfl) ?_
  refine lv_iload_n hx hb dL_law_666 rfl (lv_at hl 0 rfl) ?_
  refine lv_iconst (v := 1) hx hb dL_law_667 (by decide) ?_
  refine lv_iadd hx hb dL_law_668 ?_
  refine va_sld hx hb hX hbl hbA hS (sc_in (j := 1) (by decide) (by decide) hi hL) dL_law_669 ?_
  rw [← ea_1]
  refine lv_aload_n hx hb dL_law_670 rfl (lv_at hl 3 rfl) ?_
  refine lv_iload_n hx hb dL_law_671 rfl (lv_at hl 0 rfl) ?_
  refine lv_iconst (v := 2) hx hb dL_law_672 (by decide) ?_
  refine lv_iadd hx hb dL_law_673 ?_
  refine va_sld hx hb hX hbl hbA hS (sc_in (j := 2) (by decide) (by decide) hi hL) dL_law_674 ?_
  rw [← ea_2]
  refine lv_aload_n hx hb dL_law_675 rfl (lv_at hl 3 rfl) ?_
  refine lv_iload_n hx hb dL_law_676 rfl (lv_at hl 0 rfl) ?_
  refine lv_iconst (v := 3) hx hb dL_law_677 (by decide) ?_
  refine lv_iadd hx hb dL_law_678 ?_
  refine va_sld hx hb hX hbl hbA hS (sc_in (j := 3) (by decide) (by decide) hi hL) dL_law_679 ?_
  rw [← ea_3]
  obtain ⟨fs_8, hd_8⟩ := ism_hd (ys := wx_4) hIM
  have hFc_8 := fr_l hD hS hA
  refine va_calli (va_runV (As := [.int a_1, .int a_2, .int a_3]) (rest := []) ⟨hx, hb, hml, hown, hts⟩ (w_X8_ahead l dC dI cI cZ cL cJ H.size mo _ _ _ _ _ _ _ _ _ _ _ _ _ _ wm a_1 a_2 a_3 hIM) (cwV 3 hts gL_law_X8_ahead rfl rfl rfl (by decide +kernel) ⟨Nat.le_of_ble_eq_true rfl, Nat.le_of_ble_eq_true rfl⟩) (pvL 8 hK hP hD hst hS hFc_8 rfl hd_8) rfl rfl hl.1 rfl (lv_room (Nat.le_of_ble_eq_true rfl)) dL_law_680 ⟨Nat.le_of_ble_eq_true rfl, Nat.le_of_ble_eq_true rfl⟩) hS (fun q _ h => hFc_8 q h) hFc_8 (fun r_8 u_8 t_8 H1 locs ht hvm h_8 hB hz1 hk1 hS => ?_)
  obtain ⟨wm_8, hIM, hP1, hD1⟩ := hB
  rw [ht] at hP1
  obtain ⟨hP, hD⟩ := jn2 hP hD hk1 hFc_8 hP1 hD1
  generalize H1 = H at hP hS ⊢
  refine W.widen (k := 277) (n := 3929) (Nat.le_of_ble_eq_true rfl) (Nat.le_of_ble_eq_true rfl) ?_
  refine lv_pop hx hb dL_law_683 rfl ?_
  refine lv_goto (tgt := 1357) hx hb dL_law_684 (by decide) ?_
  exact lw_tail hC0 hi ⟨⟨_, _, _, _, _, _, _, _, _, _, _, _, _, _, hs, hIX, hIM⟩, hP, hD, hS, hl⟩ ih

set_option maxHeartbeats 4000000 in
set_option maxRecDepth 100000 in
theorem lw_c17 {p : Program} {l : Launch} {e : Env} {s : State} {m : MethodId} {below : List Frame} {meth : Method} {c : Code} {b L : Nat} {xs : Nat → Int32} {dC : Nat → ClassId} {dI : Nat → Nat → Nat} {cI cZ cL cJ : ClassId} {A : Nat → Prop} {H : Heap} {locs : List Loc} {ls : Array Slot} {x mo i : Nat} {wx wm : va_W} (hC : LCx p s m meth c b L xs dC dI cI cZ cL cJ A) (hi : 6 * i + 6 ≤ L) (hv : LIv dC dI cI cZ cL cJ A s b x mo i (wx, wm) H locs ls) (ih : ∀ (st2 : va_W × va_W) (H2 : Heap) (locs2 : List Loc) (ls2 : Array Slot), LIv dC dI cI cZ cL cJ A s b x mo (i + 1) st2 H2 locs2 ls2 → W p l e room_1 s m #[Value.ref b] below meth c H2 locs2 277 3929 (lw_Z below #[Value.ref b] s) (F0 m 18 ls2 [])) : W p l e room_1 s m #[Value.ref b] below meth c H locs 277 3929 (lw_Z below #[Value.ref b] s) (F0 m 687 ls []) := by
  have hC0 := hC
  obtain ⟨hx, hb, hr, hml, hown, hts, hX, hbl, hlocks, hAd, hA, hbA, hK, hst, hL⟩ := hC
  obtain ⟨⟨Rl, Rn, zt, Tb, lf, Lv, An, Ac, I0, I1, Tz, Tc, sg, It, hs, hIX, hIM⟩, hP, hD, hS, hl⟩ := hv
  refine lv_aload_n hx hb dL_law_687 rfl (lv_at hl 2 rfl) ?_
  refine lv_aload_n hx hb dL_law_688 rfl (lv_at hl 3 rfl) ?_
  refine lv_iload_n hx hb dL_law_689 rfl (lv_at hl 0 rfl) ?_
  refine lv_iconst (v := 1) hx hb dL_law_690 (by decide) ?_
  refine lv_iadd hx hb dL_law_691 ?_
  refine va_sld hx hb hX hbl hbA hS (sc_in (j := 1) (by decide) (by decide) hi hL) dL_law_692 ?_
  refine lv_topi (fun a_1 ea_1 => ?_)
  obtain ⟨fs_2, hd_2⟩ := isx_hd (ys := wm) hIX
  have hFc_2 := fr_l hD hS hA
  refine va_calli (va_runV (As := [.int a_1]) (rest := []) ⟨hx, hb, hml, hown, hts⟩ (w_X7_meal l dC dI cI cZ cL cJ H.size x _ _ _ _ _ _ _ _ _ _ _ _ _ _ wx a_1 hs hIX) (cwV 1 hts gL_law_X7_meal rfl rfl rfl (by decide +kernel) ⟨Nat.le_of_ble_eq_true rfl, Nat.le_of_ble_eq_true rfl⟩) (pvL 7 hK hP hD hst hS hFc_2 rfl hd_2) rfl rfl hl.1 rfl (lv_room (Nat.le_of_ble_eq_true rfl)) dL_law_693 ⟨Nat.le_of_ble_eq_true rfl, Nat.le_of_ble_eq_true rfl⟩) hS (fun q _ h => hFc_2 q h) hFc_2 (fun r_2 u_2 t_2 H1 locs ht hvm h_2 hB hz1 hk1 hS => ?_)
  obtain ⟨wx_2, hIX, hP1, hD1⟩ := hB
  rw [ht] at hP1
  obtain ⟨hP, hD⟩ := jn2 hP hD hk1 hFc_2 hP1 hD1
  generalize H1 = H at hP hS ⊢
  refine W.widen (k := 277) (n := 3929) (Nat.le_of_ble_eq_true rfl) (Nat.le_of_ble_eq_true rfl) ?_
  refine lv_pop hx hb dL_law_696 rfl ?_
  refine lv_aload_n hx hb dL_law_697 rfl (lv_at hl 1 rfl) ?_
  refine lv_aload_n hx hb dL_law_698 rfl (lv_at hl 3 rfl) ?_
  refine lv_iload_n hx hb dL_law_699 rfl (lv_at hl 0 rfl) ?_
  refine lv_iconst (v := 1) hx hb dL_law_700 (by decide) ?_
  refine lv_iadd hx hb dL_law_701 ?_
  refine va_sld hx hb hX hbl hbA hS (sc_in (j := 1) (by decide) (by decide) hi hL) dL_law_702 ?_
  rw [← ea_1]
  obtain ⟨fs_4, hd_4⟩ := ism_hd (ys := wx_2) hIM
  have hFc_4 := fr_l hD hS hA
  refine va_calli (va_runV (As := [.int a_1]) (rest := []) ⟨hx, hb, hml, hown, hts⟩ (w_X8_meal l dC dI cI cZ cL cJ H.size mo _ _ _ _ _ _ _ _ _ _ _ _ _ _ wm a_1 hIM) (cwV 1 hts gL_law_X8_meal rfl rfl rfl (by decide +kernel) ⟨Nat.le_of_ble_eq_true rfl, Nat.le_of_ble_eq_true rfl⟩) (pvL 8 hK hP hD hst hS hFc_4 rfl hd_4) rfl rfl hl.1 rfl (lv_room (Nat.le_of_ble_eq_true rfl)) dL_law_703 ⟨Nat.le_of_ble_eq_true rfl, Nat.le_of_ble_eq_true rfl⟩) hS (fun q _ h => hFc_4 q h) hFc_4 (fun r_4 u_4 t_4 H1 locs ht hvm h_4 hB hz1 hk1 hS => ?_)
  obtain ⟨wm_4, hIM, hP1, hD1⟩ := hB
  rw [ht] at hP1
  obtain ⟨hP, hD⟩ := jn2 hP hD hk1 hFc_4 hP1 hD1
  generalize H1 = H at hP hS ⊢
  refine W.widen (k := 277) (n := 3929) (Nat.le_of_ble_eq_true rfl) (Nat.le_of_ble_eq_true rfl) ?_
  refine lv_pop hx hb dL_law_706 rfl ?_
  refine lv_goto (tgt := 1357) hx hb dL_law_707 (by decide) ?_
  exact lw_tail hC0 hi ⟨⟨_, _, _, _, _, _, _, _, _, _, _, _, _, _, hs, hIX, hIM⟩, hP, hD, hS, hl⟩ ih

set_option maxHeartbeats 4000000 in
set_option maxRecDepth 100000 in
theorem lw_c18 {p : Program} {l : Launch} {e : Env} {s : State} {m : MethodId} {below : List Frame} {meth : Method} {c : Code} {b L : Nat} {xs : Nat → Int32} {dC : Nat → ClassId} {dI : Nat → Nat → Nat} {cI cZ cL cJ : ClassId} {A : Nat → Prop} {H : Heap} {locs : List Loc} {ls : Array Slot} {x mo i : Nat} {wx wm : va_W} (hC : LCx p s m meth c b L xs dC dI cI cZ cL cJ A) (hi : 6 * i + 6 ≤ L) (hv : LIv dC dI cI cZ cL cJ A s b x mo i (wx, wm) H locs ls) (ih : ∀ (st2 : va_W × va_W) (H2 : Heap) (locs2 : List Loc) (ls2 : Array Slot), LIv dC dI cI cZ cL cJ A s b x mo (i + 1) st2 H2 locs2 ls2 → W p l e room_1 s m #[Value.ref b] below meth c H2 locs2 277 3929 (lw_Z below #[Value.ref b] s) (F0 m 18 ls2 [])) : W p l e room_1 s m #[Value.ref b] below meth c H locs 277 3929 (lw_Z below #[Value.ref b] s) (F0 m 710 ls []) := by
  have hC0 := hC
  obtain ⟨hx, hb, hr, hml, hown, hts, hX, hbl, hlocks, hAd, hA, hbA, hK, hst, hL⟩ := hC
  obtain ⟨⟨Rl, Rn, zt, Tb, lf, Lv, An, Ac, I0, I1, Tz, Tc, sg, It, hs, hIX, hIM⟩, hP, hD, hS, hl⟩ := hv
  refine lv_aload_n hx hb dL_law_710 rfl (lv_at hl 2 rfl) ?_
  refine lv_aload_n hx hb dL_law_711 rfl (lv_at hl 3 rfl) ?_
  refine lv_iload_n hx hb dL_law_712 rfl (lv_at hl 0 rfl) ?_
  refine lv_iconst (v := 1) hx hb dL_law_713 (by decide) ?_
  refine lv_iadd hx hb dL_law_714 ?_
  refine va_sld hx hb hX hbl hbA hS (sc_in (j := 1) (by decide) (by decide) hi hL) dL_law_715 ?_
  refine lv_topi (fun a_1 ea_1 => ?_)
  refine lv_aload_n hx hb dL_law_716 rfl (lv_at hl 3 rfl) ?_
  refine lv_iload_n hx hb dL_law_717 rfl (lv_at hl 0 rfl) ?_
  refine lv_iconst (v := 2) hx hb dL_law_718 (by decide) ?_
  refine lv_iadd hx hb dL_law_719 ?_
  refine va_sld hx hb hX hbl hbA hS (sc_in (j := 2) (by decide) (by decide) hi hL) dL_law_720 ?_
  refine lv_topi (fun a_2 ea_2 => ?_)
  obtain ⟨fs_3, hd_3⟩ := isx_hd (ys := wm) hIX
  have hFc_3 := fr_l hD hS hA
  refine va_calli (va_runV (As := [.int a_1, .int a_2]) (rest := []) ⟨hx, hb, hml, hown, hts⟩ (w_X7_when l dC dI cI cZ cL cJ H.size x _ _ _ _ _ _ _ _ _ _ _ _ _ _ wx a_1 a_2 hs hIX) (cwV 2 hts gL_law_X7_when rfl rfl rfl (by decide +kernel) ⟨Nat.le_of_ble_eq_true rfl, Nat.le_of_ble_eq_true rfl⟩) (pvL 7 hK hP hD hst hS hFc_3 rfl hd_3) rfl rfl hl.1 rfl (lv_room (Nat.le_of_ble_eq_true rfl)) dL_law_721 ⟨Nat.le_of_ble_eq_true rfl, Nat.le_of_ble_eq_true rfl⟩) hS (fun q _ h => hFc_3 q h) hFc_3 (fun r_3 u_3 t_3 H1 locs ht hvm h_3 hB hz1 hk1 hS => ?_)
  obtain ⟨wx_3, hIX, hP1, hD1⟩ := hB
  rw [ht] at hP1
  obtain ⟨hP, hD⟩ := jn2 hP hD hk1 hFc_3 hP1 hD1
  generalize H1 = H at hP hS ⊢
  refine W.widen (k := 277) (n := 3929) (Nat.le_of_ble_eq_true rfl) (Nat.le_of_ble_eq_true rfl) ?_
  refine lv_pop hx hb dL_law_724 rfl ?_
  refine lv_aload_n hx hb dL_law_725 rfl (lv_at hl 1 rfl) ?_
  refine lv_aload_n hx hb dL_law_726 rfl (lv_at hl 3 rfl) ?_
  refine lv_iload_n hx hb dL_law_727 rfl (lv_at hl 0 rfl) ?_
  refine lv_iconst (v := 1) hx hb dL_law_728 (by decide) ?_
  refine lv_iadd hx hb dL_law_729 ?_
  refine va_sld hx hb hX hbl hbA hS (sc_in (j := 1) (by decide) (by decide) hi hL) dL_law_730 ?_
  rw [← ea_1]
  refine lv_aload_n hx hb dL_law_731 rfl (lv_at hl 3 rfl) ?_
  refine lv_iload_n hx hb dL_law_732 rfl (lv_at hl 0 rfl) ?_
  refine lv_iconst (v := 2) hx hb dL_law_733 (by decide) ?_
  refine lv_iadd hx hb dL_law_734 ?_
  refine va_sld hx hb hX hbl hbA hS (sc_in (j := 2) (by decide) (by decide) hi hL) dL_law_735 ?_
  rw [← ea_2]
  obtain ⟨fs_6, hd_6⟩ := ism_hd (ys := wx_3) hIM
  have hFc_6 := fr_l hD hS hA
  refine va_calli (va_runV (As := [.int a_1, .int a_2]) (rest := []) ⟨hx, hb, hml, hown, hts⟩ (w_X8_when l dC dI cI cZ cL cJ H.size mo _ _ _ _ _ _ _ _ _ _ _ _ _ _ wm a_1 a_2 hIM) (cwV 2 hts gL_law_X8_when rfl rfl rfl (by decide +kernel) ⟨Nat.le_of_ble_eq_true rfl, Nat.le_of_ble_eq_true rfl⟩) (pvL 8 hK hP hD hst hS hFc_6 rfl hd_6) rfl rfl hl.1 rfl (lv_room (Nat.le_of_ble_eq_true rfl)) dL_law_736 ⟨Nat.le_of_ble_eq_true rfl, Nat.le_of_ble_eq_true rfl⟩) hS (fun q _ h => hFc_6 q h) hFc_6 (fun r_6 u_6 t_6 H1 locs ht hvm h_6 hB hz1 hk1 hS => ?_)
  obtain ⟨wm_6, hIM, hP1, hD1⟩ := hB
  rw [ht] at hP1
  obtain ⟨hP, hD⟩ := jn2 hP hD hk1 hFc_6 hP1 hD1
  generalize H1 = H at hP hS ⊢
  refine W.widen (k := 277) (n := 3929) (Nat.le_of_ble_eq_true rfl) (Nat.le_of_ble_eq_true rfl) ?_
  refine lv_pop hx hb dL_law_739 rfl ?_
  refine lv_goto (tgt := 1357) hx hb dL_law_740 (by decide) ?_
  exact lw_tail hC0 hi ⟨⟨_, _, _, _, _, _, _, _, _, _, _, _, _, _, hs, hIX, hIM⟩, hP, hD, hS, hl⟩ ih

set_option maxHeartbeats 4000000 in
set_option maxRecDepth 100000 in
theorem lw_c19 {p : Program} {l : Launch} {e : Env} {s : State} {m : MethodId} {below : List Frame} {meth : Method} {c : Code} {b L : Nat} {xs : Nat → Int32} {dC : Nat → ClassId} {dI : Nat → Nat → Nat} {cI cZ cL cJ : ClassId} {A : Nat → Prop} {H : Heap} {locs : List Loc} {ls : Array Slot} {x mo i : Nat} {wx wm : va_W} (hC : LCx p s m meth c b L xs dC dI cI cZ cL cJ A) (hi : 6 * i + 6 ≤ L) (hv : LIv dC dI cI cZ cL cJ A s b x mo i (wx, wm) H locs ls) (ih : ∀ (st2 : va_W × va_W) (H2 : Heap) (locs2 : List Loc) (ls2 : Array Slot), LIv dC dI cI cZ cL cJ A s b x mo (i + 1) st2 H2 locs2 ls2 → W p l e room_1 s m #[Value.ref b] below meth c H2 locs2 277 3929 (lw_Z below #[Value.ref b] s) (F0 m 18 ls2 [])) : W p l e room_1 s m #[Value.ref b] below meth c H locs 277 3929 (lw_Z below #[Value.ref b] s) (F0 m 743 ls []) := by
  have hC0 := hC
  obtain ⟨hx, hb, hr, hml, hown, hts, hX, hbl, hlocks, hAd, hA, hbA, hK, hst, hL⟩ := hC
  obtain ⟨⟨Rl, Rn, zt, Tb, lf, Lv, An, Ac, I0, I1, Tz, Tc, sg, It, hs, hIX, hIM⟩, hP, hD, hS, hl⟩ := hv
  refine lv_aload_n hx hb dL_law_743 rfl (lv_at hl 2 rfl) ?_
  refine lv_aload_n hx hb dL_law_744 rfl (lv_at hl 3 rfl) ?_
  refine lv_iload_n hx hb dL_law_745 rfl (lv_at hl 0 rfl) ?_
  refine lv_iconst (v := 1) hx hb dL_law_746 (by decide) ?_
  refine lv_iadd hx hb dL_law_747 ?_
  refine va_sld hx hb hX hbl hbA hS (sc_in (j := 1) (by decide) (by decide) hi hL) dL_law_748 ?_
  refine lv_topi (fun a_1 ea_1 => ?_)
  refine lv_aload_n hx hb dL_law_749 rfl (lv_at hl 3 rfl) ?_
  refine lv_iload_n hx hb dL_law_750 rfl (lv_at hl 0 rfl) ?_
  refine lv_iconst (v := 2) hx hb dL_law_751 (by decide) ?_
  refine lv_iadd hx hb dL_law_752 ?_
  refine va_sld hx hb hX hbl hbA hS (sc_in (j := 2) (by decide) (by decide) hi hL) dL_law_753 ?_
  refine lv_topi (fun a_2 ea_2 => ?_)
  obtain ⟨fs_3, hd_3⟩ := isx_hd (ys := wm) hIX
  have hFc_3 := fr_l hD hS hA
  refine va_calli (va_runV (As := [.int a_1, .int a_2]) (rest := []) ⟨hx, hb, hml, hown, hts⟩ (w_X7_caps l dC dI cI cZ cL cJ H.size x _ _ _ _ _ _ _ _ _ _ _ _ _ _ wx a_1 a_2 hs hIX) (cwV 2 hts gL_law_X7_caps rfl rfl rfl (by decide +kernel) ⟨Nat.le_of_ble_eq_true rfl, Nat.le_of_ble_eq_true rfl⟩) (pvL 7 hK hP hD hst hS hFc_3 rfl hd_3) rfl rfl hl.1 rfl (lv_room (Nat.le_of_ble_eq_true rfl)) dL_law_754 ⟨Nat.le_of_ble_eq_true rfl, Nat.le_of_ble_eq_true rfl⟩) hS (fun q _ h => hFc_3 q h) hFc_3 (fun r_3 u_3 t_3 H1 locs ht hvm h_3 hB hz1 hk1 hS => ?_)
  obtain ⟨wx_3, hIX, hP1, hD1⟩ := hB
  rw [ht] at hP1
  obtain ⟨hP, hD⟩ := jn2 hP hD hk1 hFc_3 hP1 hD1
  generalize H1 = H at hP hS ⊢
  refine W.widen (k := 277) (n := 3929) (Nat.le_of_ble_eq_true rfl) (Nat.le_of_ble_eq_true rfl) ?_
  refine lv_pop hx hb dL_law_757 rfl ?_
  refine lv_aload_n hx hb dL_law_758 rfl (lv_at hl 1 rfl) ?_
  refine lv_aload_n hx hb dL_law_759 rfl (lv_at hl 3 rfl) ?_
  refine lv_iload_n hx hb dL_law_760 rfl (lv_at hl 0 rfl) ?_
  refine lv_iconst (v := 1) hx hb dL_law_761 (by decide) ?_
  refine lv_iadd hx hb dL_law_762 ?_
  refine va_sld hx hb hX hbl hbA hS (sc_in (j := 1) (by decide) (by decide) hi hL) dL_law_763 ?_
  rw [← ea_1]
  refine lv_aload_n hx hb dL_law_764 rfl (lv_at hl 3 rfl) ?_
  refine lv_iload_n hx hb dL_law_765 rfl (lv_at hl 0 rfl) ?_
  refine lv_iconst (v := 2) hx hb dL_law_766 (by decide) ?_
  refine lv_iadd hx hb dL_law_767 ?_
  refine va_sld hx hb hX hbl hbA hS (sc_in (j := 2) (by decide) (by decide) hi hL) dL_law_768 ?_
  rw [← ea_2]
  obtain ⟨fs_6, hd_6⟩ := ism_hd (ys := wx_3) hIM
  have hFc_6 := fr_l hD hS hA
  refine va_calli (va_runV (As := [.int a_1, .int a_2]) (rest := []) ⟨hx, hb, hml, hown, hts⟩ (w_X8_caps l dC dI cI cZ cL cJ H.size mo _ _ _ _ _ _ _ _ _ _ _ _ _ _ wm a_1 a_2 hIM) (cwV 2 hts gL_law_X8_caps rfl rfl rfl (by decide +kernel) ⟨Nat.le_of_ble_eq_true rfl, Nat.le_of_ble_eq_true rfl⟩) (pvL 8 hK hP hD hst hS hFc_6 rfl hd_6) rfl rfl hl.1 rfl (lv_room (Nat.le_of_ble_eq_true rfl)) dL_law_769 ⟨Nat.le_of_ble_eq_true rfl, Nat.le_of_ble_eq_true rfl⟩) hS (fun q _ h => hFc_6 q h) hFc_6 (fun r_6 u_6 t_6 H1 locs ht hvm h_6 hB hz1 hk1 hS => ?_)
  obtain ⟨wm_6, hIM, hP1, hD1⟩ := hB
  rw [ht] at hP1
  obtain ⟨hP, hD⟩ := jn2 hP hD hk1 hFc_6 hP1 hD1
  generalize H1 = H at hP hS ⊢
  refine W.widen (k := 277) (n := 3929) (Nat.le_of_ble_eq_true rfl) (Nat.le_of_ble_eq_true rfl) ?_
  refine lv_pop hx hb dL_law_772 rfl ?_
  refine lv_goto (tgt := 1357) hx hb dL_law_773 (by decide) ?_
  exact lw_tail hC0 hi ⟨⟨_, _, _, _, _, _, _, _, _, _, _, _, _, _, hs, hIX, hIM⟩, hP, hD, hS, hl⟩ ih

set_option maxHeartbeats 4000000 in
set_option maxRecDepth 100000 in
theorem lw_c20 {p : Program} {l : Launch} {e : Env} {s : State} {m : MethodId} {below : List Frame} {meth : Method} {c : Code} {b L : Nat} {xs : Nat → Int32} {dC : Nat → ClassId} {dI : Nat → Nat → Nat} {cI cZ cL cJ : ClassId} {A : Nat → Prop} {H : Heap} {locs : List Loc} {ls : Array Slot} {x mo i : Nat} {wx wm : va_W} (hC : LCx p s m meth c b L xs dC dI cI cZ cL cJ A) (hi : 6 * i + 6 ≤ L) (hv : LIv dC dI cI cZ cL cJ A s b x mo i (wx, wm) H locs ls) (ih : ∀ (st2 : va_W × va_W) (H2 : Heap) (locs2 : List Loc) (ls2 : Array Slot), LIv dC dI cI cZ cL cJ A s b x mo (i + 1) st2 H2 locs2 ls2 → W p l e room_1 s m #[Value.ref b] below meth c H2 locs2 277 3929 (lw_Z below #[Value.ref b] s) (F0 m 18 ls2 [])) : W p l e room_1 s m #[Value.ref b] below meth c H locs 277 3929 (lw_Z below #[Value.ref b] s) (F0 m 776 ls []) := by
  have hC0 := hC
  obtain ⟨hx, hb, hr, hml, hown, hts, hX, hbl, hlocks, hAd, hA, hbA, hK, hst, hL⟩ := hC
  obtain ⟨⟨Rl, Rn, zt, Tb, lf, Lv, An, Ac, I0, I1, Tz, Tc, sg, It, hs, hIX, hIM⟩, hP, hD, hS, hl⟩ := hv
  refine lv_aload_n hx hb dL_law_776 rfl (lv_at hl 2 rfl) ?_
  refine lv_aload_n hx hb dL_law_777 rfl (lv_at hl 3 rfl) ?_
  refine lv_iload_n hx hb dL_law_778 rfl (lv_at hl 0 rfl) ?_
  refine lv_iconst (v := 1) hx hb dL_law_779 (by decide) ?_
  refine lv_iadd hx hb dL_law_780 ?_
  refine va_sld hx hb hX hbl hbA hS (sc_in (j := 1) (by decide) (by decide) hi hL) dL_law_781 ?_
  refine lv_topi (fun a_1 ea_1 => ?_)
  refine lv_aload_n hx hb dL_law_782 rfl (lv_at hl 3 rfl) ?_
  refine lv_iload_n hx hb dL_law_783 rfl (lv_at hl 0 rfl) ?_
  refine lv_iconst (v := 2) hx hb dL_law_784 (by decide) ?_
  refine lv_iadd hx hb dL_law_785 ?_
  refine va_sld hx hb hX hbl hbA hS (sc_in (j := 2) (by decide) (by decide) hi hL) dL_law_786 ?_
  refine lv_topi (fun a_2 ea_2 => ?_)
  obtain ⟨fs_3, hd_3⟩ := isx_hd (ys := wm) hIX
  have hFc_3 := fr_l hD hS hA
  refine va_calli (va_runV (As := [.int a_1, .int a_2]) (rest := []) ⟨hx, hb, hml, hown, hts⟩ (w_X7_had l dC dI cI cZ cL cJ H.size x _ _ _ _ _ _ _ _ _ _ _ _ _ _ wx a_1 a_2 hs hIX) (cwV 2 hts gL_law_X7_had rfl rfl rfl (by decide +kernel) ⟨Nat.le_of_ble_eq_true rfl, Nat.le_of_ble_eq_true rfl⟩) (pvL 7 hK hP hD hst hS hFc_3 rfl hd_3) rfl rfl hl.1 rfl (lv_room (Nat.le_of_ble_eq_true rfl)) dL_law_787 ⟨Nat.le_of_ble_eq_true rfl, Nat.le_of_ble_eq_true rfl⟩) hS (fun q _ h => hFc_3 q h) hFc_3 (fun r_3 u_3 t_3 H1 locs ht hvm h_3 hB hz1 hk1 hS => ?_)
  obtain ⟨wx_3, hIX, hP1, hD1⟩ := hB
  rw [ht] at hP1
  obtain ⟨hP, hD⟩ := jn2 hP hD hk1 hFc_3 hP1 hD1
  generalize H1 = H at hP hS ⊢
  refine W.widen (k := 277) (n := 3929) (Nat.le_of_ble_eq_true rfl) (Nat.le_of_ble_eq_true rfl) ?_
  refine lv_pop hx hb dL_law_790 rfl ?_
  refine lv_aload_n hx hb dL_law_791 rfl (lv_at hl 1 rfl) ?_
  refine lv_aload_n hx hb dL_law_792 rfl (lv_at hl 3 rfl) ?_
  refine lv_iload_n hx hb dL_law_793 rfl (lv_at hl 0 rfl) ?_
  refine lv_iconst (v := 1) hx hb dL_law_794 (by decide) ?_
  refine lv_iadd hx hb dL_law_795 ?_
  refine va_sld hx hb hX hbl hbA hS (sc_in (j := 1) (by decide) (by decide) hi hL) dL_law_796 ?_
  rw [← ea_1]
  refine lv_aload_n hx hb dL_law_797 rfl (lv_at hl 3 rfl) ?_
  refine lv_iload_n hx hb dL_law_798 rfl (lv_at hl 0 rfl) ?_
  refine lv_iconst (v := 2) hx hb dL_law_799 (by decide) ?_
  refine lv_iadd hx hb dL_law_800 ?_
  refine va_sld hx hb hX hbl hbA hS (sc_in (j := 2) (by decide) (by decide) hi hL) dL_law_801 ?_
  rw [← ea_2]
  obtain ⟨fs_6, hd_6⟩ := ism_hd (ys := wx_3) hIM
  have hFc_6 := fr_l hD hS hA
  refine va_calli (va_runV (As := [.int a_1, .int a_2]) (rest := []) ⟨hx, hb, hml, hown, hts⟩ (w_X8_had l dC dI cI cZ cL cJ H.size mo _ _ _ _ _ _ _ _ _ _ _ _ _ _ wm a_1 a_2 hIM) (cwV 2 hts gL_law_X8_had rfl rfl rfl (by decide +kernel) ⟨Nat.le_of_ble_eq_true rfl, Nat.le_of_ble_eq_true rfl⟩) (pvL 8 hK hP hD hst hS hFc_6 rfl hd_6) rfl rfl hl.1 rfl (lv_room (Nat.le_of_ble_eq_true rfl)) dL_law_802 ⟨Nat.le_of_ble_eq_true rfl, Nat.le_of_ble_eq_true rfl⟩) hS (fun q _ h => hFc_6 q h) hFc_6 (fun r_6 u_6 t_6 H1 locs ht hvm h_6 hB hz1 hk1 hS => ?_)
  obtain ⟨wm_6, hIM, hP1, hD1⟩ := hB
  rw [ht] at hP1
  obtain ⟨hP, hD⟩ := jn2 hP hD hk1 hFc_6 hP1 hD1
  generalize H1 = H at hP hS ⊢
  refine W.widen (k := 277) (n := 3929) (Nat.le_of_ble_eq_true rfl) (Nat.le_of_ble_eq_true rfl) ?_
  refine lv_pop hx hb dL_law_805 rfl ?_
  refine lv_goto (tgt := 1357) hx hb dL_law_806 (by decide) ?_
  exact lw_tail hC0 hi ⟨⟨_, _, _, _, _, _, _, _, _, _, _, _, _, _, hs, hIX, hIM⟩, hP, hD, hS, hl⟩ ih

set_option maxHeartbeats 4000000 in
set_option maxRecDepth 100000 in
theorem lw_c21 {p : Program} {l : Launch} {e : Env} {s : State} {m : MethodId} {below : List Frame} {meth : Method} {c : Code} {b L : Nat} {xs : Nat → Int32} {dC : Nat → ClassId} {dI : Nat → Nat → Nat} {cI cZ cL cJ : ClassId} {A : Nat → Prop} {H : Heap} {locs : List Loc} {ls : Array Slot} {x mo i : Nat} {wx wm : va_W} (hC : LCx p s m meth c b L xs dC dI cI cZ cL cJ A) (hi : 6 * i + 6 ≤ L) (hv : LIv dC dI cI cZ cL cJ A s b x mo i (wx, wm) H locs ls) (ih : ∀ (st2 : va_W × va_W) (H2 : Heap) (locs2 : List Loc) (ls2 : Array Slot), LIv dC dI cI cZ cL cJ A s b x mo (i + 1) st2 H2 locs2 ls2 → W p l e room_1 s m #[Value.ref b] below meth c H2 locs2 277 3929 (lw_Z below #[Value.ref b] s) (F0 m 18 ls2 [])) : W p l e room_1 s m #[Value.ref b] below meth c H locs 277 3929 (lw_Z below #[Value.ref b] s) (F0 m 809 ls []) := by
  have hC0 := hC
  obtain ⟨hx, hb, hr, hml, hown, hts, hX, hbl, hlocks, hAd, hA, hbA, hK, hst, hL⟩ := hC
  obtain ⟨⟨Rl, Rn, zt, Tb, lf, Lv, An, Ac, I0, I1, Tz, Tc, sg, It, hs, hIX, hIM⟩, hP, hD, hS, hl⟩ := hv
  refine lv_aload_n hx hb dL_law_809 rfl (lv_at hl 2 rfl) ?_
  refine lv_aload_n hx hb dL_law_810 rfl (lv_at hl 3 rfl) ?_
  refine lv_iload_n hx hb dL_law_811 rfl (lv_at hl 0 rfl) ?_
  refine lv_iconst (v := 1) hx hb dL_law_812 (by decide) ?_
  refine lv_iadd hx hb dL_law_813 ?_
  refine va_sld hx hb hX hbl hbA hS (sc_in (j := 1) (by decide) (by decide) hi hL) dL_law_814 ?_
  refine lv_topi (fun a_1 ea_1 => ?_)
  refine lv_aload_n hx hb dL_law_815 rfl (lv_at hl 3 rfl) ?_
  refine lv_iload_n hx hb dL_law_816 rfl (lv_at hl 0 rfl) ?_
  refine lv_iconst (v := 2) hx hb dL_law_817 (by decide) ?_
  refine lv_iadd hx hb dL_law_818 ?_
  refine va_sld hx hb hX hbl hbA hS (sc_in (j := 2) (by decide) (by decide) hi hL) dL_law_819 ?_
  refine lv_topi (fun a_2 ea_2 => ?_)
  obtain ⟨fs_3, hd_3⟩ := isx_hd (ys := wm) hIX
  have hFc_3 := fr_l hD hS hA
  refine va_calli (va_runV (As := [.int a_1, .int a_2]) (rest := []) ⟨hx, hb, hml, hown, hts⟩ (w_X7_site l dC dI cI cZ cL cJ H.size x _ _ _ _ _ _ _ _ _ _ _ _ _ _ wx a_1 a_2 hs hIX) (cwV 2 hts gL_law_X7_site rfl rfl rfl (by decide +kernel) ⟨Nat.le_of_ble_eq_true rfl, Nat.le_of_ble_eq_true rfl⟩) (pvL 7 hK hP hD hst hS hFc_3 rfl hd_3) rfl rfl hl.1 rfl (lv_room (Nat.le_of_ble_eq_true rfl)) dL_law_820 ⟨Nat.le_of_ble_eq_true rfl, Nat.le_of_ble_eq_true rfl⟩) hS (fun q _ h => hFc_3 q h) hFc_3 (fun r_3 u_3 t_3 H1 locs ht hvm h_3 hB hz1 hk1 hS => ?_)
  obtain ⟨wx_3, hIX, hP1, hD1⟩ := hB
  rw [ht] at hP1
  obtain ⟨hP, hD⟩ := jn2 hP hD hk1 hFc_3 hP1 hD1
  generalize H1 = H at hP hS ⊢
  refine W.widen (k := 277) (n := 3929) (Nat.le_of_ble_eq_true rfl) (Nat.le_of_ble_eq_true rfl) ?_
  refine lv_pop hx hb dL_law_823 rfl ?_
  refine lv_aload_n hx hb dL_law_824 rfl (lv_at hl 1 rfl) ?_
  refine lv_aload_n hx hb dL_law_825 rfl (lv_at hl 3 rfl) ?_
  refine lv_iload_n hx hb dL_law_826 rfl (lv_at hl 0 rfl) ?_
  refine lv_iconst (v := 1) hx hb dL_law_827 (by decide) ?_
  refine lv_iadd hx hb dL_law_828 ?_
  refine va_sld hx hb hX hbl hbA hS (sc_in (j := 1) (by decide) (by decide) hi hL) dL_law_829 ?_
  rw [← ea_1]
  refine lv_aload_n hx hb dL_law_830 rfl (lv_at hl 3 rfl) ?_
  refine lv_iload_n hx hb dL_law_831 rfl (lv_at hl 0 rfl) ?_
  refine lv_iconst (v := 2) hx hb dL_law_832 (by decide) ?_
  refine lv_iadd hx hb dL_law_833 ?_
  refine va_sld hx hb hX hbl hbA hS (sc_in (j := 2) (by decide) (by decide) hi hL) dL_law_834 ?_
  rw [← ea_2]
  obtain ⟨fs_6, hd_6⟩ := ism_hd (ys := wx_3) hIM
  have hFc_6 := fr_l hD hS hA
  refine va_calli (va_runV (As := [.int a_1, .int a_2]) (rest := []) ⟨hx, hb, hml, hown, hts⟩ (w_X8_site l dC dI cI cZ cL cJ H.size mo _ _ _ _ _ _ _ _ _ _ _ _ _ _ wm a_1 a_2 hIM) (cwV 2 hts gL_law_X8_site rfl rfl rfl (by decide +kernel) ⟨Nat.le_of_ble_eq_true rfl, Nat.le_of_ble_eq_true rfl⟩) (pvL 8 hK hP hD hst hS hFc_6 rfl hd_6) rfl rfl hl.1 rfl (lv_room (Nat.le_of_ble_eq_true rfl)) dL_law_835 ⟨Nat.le_of_ble_eq_true rfl, Nat.le_of_ble_eq_true rfl⟩) hS (fun q _ h => hFc_6 q h) hFc_6 (fun r_6 u_6 t_6 H1 locs ht hvm h_6 hB hz1 hk1 hS => ?_)
  obtain ⟨wm_6, hIM, hP1, hD1⟩ := hB
  rw [ht] at hP1
  obtain ⟨hP, hD⟩ := jn2 hP hD hk1 hFc_6 hP1 hD1
  generalize H1 = H at hP hS ⊢
  refine W.widen (k := 277) (n := 3929) (Nat.le_of_ble_eq_true rfl) (Nat.le_of_ble_eq_true rfl) ?_
  refine lv_pop hx hb dL_law_838 rfl ?_
  refine lv_goto (tgt := 1357) hx hb dL_law_839 (by decide) ?_
  exact lw_tail hC0 hi ⟨⟨_, _, _, _, _, _, _, _, _, _, _, _, _, _, hs, hIX, hIM⟩, hP, hD, hS, hl⟩ ih

set_option maxHeartbeats 4000000 in
set_option maxRecDepth 100000 in
theorem lw_c22 {p : Program} {l : Launch} {e : Env} {s : State} {m : MethodId} {below : List Frame} {meth : Method} {c : Code} {b L : Nat} {xs : Nat → Int32} {dC : Nat → ClassId} {dI : Nat → Nat → Nat} {cI cZ cL cJ : ClassId} {A : Nat → Prop} {H : Heap} {locs : List Loc} {ls : Array Slot} {x mo i : Nat} {wx wm : va_W} (hC : LCx p s m meth c b L xs dC dI cI cZ cL cJ A) (hi : 6 * i + 6 ≤ L) (hv : LIv dC dI cI cZ cL cJ A s b x mo i (wx, wm) H locs ls) (ih : ∀ (st2 : va_W × va_W) (H2 : Heap) (locs2 : List Loc) (ls2 : Array Slot), LIv dC dI cI cZ cL cJ A s b x mo (i + 1) st2 H2 locs2 ls2 → W p l e room_1 s m #[Value.ref b] below meth c H2 locs2 277 3929 (lw_Z below #[Value.ref b] s) (F0 m 18 ls2 [])) : W p l e room_1 s m #[Value.ref b] below meth c H locs 277 3929 (lw_Z below #[Value.ref b] s) (F0 m 842 ls []) := by
  have hC0 := hC
  obtain ⟨hx, hb, hr, hml, hown, hts, hX, hbl, hlocks, hAd, hA, hbA, hK, hst, hL⟩ := hC
  obtain ⟨⟨Rl, Rn, zt, Tb, lf, Lv, An, Ac, I0, I1, Tz, Tc, sg, It, hs, hIX, hIM⟩, hP, hD, hS, hl⟩ := hv
  refine lv_aload_n hx hb dL_law_842 rfl (lv_at hl 2 rfl) ?_
  refine lv_aload_n hx hb dL_law_843 rfl (lv_at hl 3 rfl) ?_
  refine lv_iload_n hx hb dL_law_844 rfl (lv_at hl 0 rfl) ?_
  refine lv_iconst (v := 1) hx hb dL_law_845 (by decide) ?_
  refine lv_iadd hx hb dL_law_846 ?_
  refine va_sld hx hb hX hbl hbA hS (sc_in (j := 1) (by decide) (by decide) hi hL) dL_law_847 ?_
  refine lv_topi (fun a_1 ea_1 => ?_)
  refine lv_aload_n hx hb dL_law_848 rfl (lv_at hl 3 rfl) ?_
  refine lv_iload_n hx hb dL_law_849 rfl (lv_at hl 0 rfl) ?_
  refine lv_iconst (v := 2) hx hb dL_law_850 (by decide) ?_
  refine lv_iadd hx hb dL_law_851 ?_
  refine va_sld hx hb hX hbl hbA hS (sc_in (j := 2) (by decide) (by decide) hi hL) dL_law_852 ?_
  refine lv_topi (fun a_2 ea_2 => ?_)
  obtain ⟨fs_3, hd_3⟩ := isx_hd (ys := wm) hIX
  have hFc_3 := fr_l hD hS hA
  refine va_calli (va_runV (As := [.int a_1, .int a_2]) (rest := []) ⟨hx, hb, hml, hown, hts⟩ (w_X7_sack l dC dI cI cZ cL cJ H.size x _ _ _ _ _ _ _ _ _ _ _ _ _ _ wx a_1 a_2 hs hIX) (cwV 2 hts gL_law_X7_sack rfl rfl rfl (by decide +kernel) ⟨Nat.le_of_ble_eq_true rfl, Nat.le_of_ble_eq_true rfl⟩) (pvL 7 hK hP hD hst hS hFc_3 rfl hd_3) rfl rfl hl.1 rfl (lv_room (Nat.le_of_ble_eq_true rfl)) dL_law_853 ⟨Nat.le_of_ble_eq_true rfl, Nat.le_of_ble_eq_true rfl⟩) hS (fun q _ h => hFc_3 q h) hFc_3 (fun r_3 u_3 t_3 H1 locs ht hvm h_3 hB hz1 hk1 hS => ?_)
  obtain ⟨wx_3, hIX, hP1, hD1⟩ := hB
  rw [ht] at hP1
  obtain ⟨hP, hD⟩ := jn2 hP hD hk1 hFc_3 hP1 hD1
  generalize H1 = H at hP hS ⊢
  refine W.widen (k := 277) (n := 3929) (Nat.le_of_ble_eq_true rfl) (Nat.le_of_ble_eq_true rfl) ?_
  refine lv_pop hx hb dL_law_856 rfl ?_
  refine lv_aload_n hx hb dL_law_857 rfl (lv_at hl 1 rfl) ?_
  refine lv_aload_n hx hb dL_law_858 rfl (lv_at hl 3 rfl) ?_
  refine lv_iload_n hx hb dL_law_859 rfl (lv_at hl 0 rfl) ?_
  refine lv_iconst (v := 1) hx hb dL_law_860 (by decide) ?_
  refine lv_iadd hx hb dL_law_861 ?_
  refine va_sld hx hb hX hbl hbA hS (sc_in (j := 1) (by decide) (by decide) hi hL) dL_law_862 ?_
  rw [← ea_1]
  refine lv_aload_n hx hb dL_law_863 rfl (lv_at hl 3 rfl) ?_
  refine lv_iload_n hx hb dL_law_864 rfl (lv_at hl 0 rfl) ?_
  refine lv_iconst (v := 2) hx hb dL_law_865 (by decide) ?_
  refine lv_iadd hx hb dL_law_866 ?_
  refine va_sld hx hb hX hbl hbA hS (sc_in (j := 2) (by decide) (by decide) hi hL) dL_law_867 ?_
  rw [← ea_2]
  obtain ⟨fs_6, hd_6⟩ := ism_hd (ys := wx_3) hIM
  have hFc_6 := fr_l hD hS hA
  refine va_calli (va_runV (As := [.int a_1, .int a_2]) (rest := []) ⟨hx, hb, hml, hown, hts⟩ (w_X8_sack l dC dI cI cZ cL cJ H.size mo _ _ _ _ _ _ _ _ _ _ _ _ _ _ wm a_1 a_2 hIM) (cwV 2 hts gL_law_X8_sack rfl rfl rfl (by decide +kernel) ⟨Nat.le_of_ble_eq_true rfl, Nat.le_of_ble_eq_true rfl⟩) (pvL 8 hK hP hD hst hS hFc_6 rfl hd_6) rfl rfl hl.1 rfl (lv_room (Nat.le_of_ble_eq_true rfl)) dL_law_868 ⟨Nat.le_of_ble_eq_true rfl, Nat.le_of_ble_eq_true rfl⟩) hS (fun q _ h => hFc_6 q h) hFc_6 (fun r_6 u_6 t_6 H1 locs ht hvm h_6 hB hz1 hk1 hS => ?_)
  obtain ⟨wm_6, hIM, hP1, hD1⟩ := hB
  rw [ht] at hP1
  obtain ⟨hP, hD⟩ := jn2 hP hD hk1 hFc_6 hP1 hD1
  generalize H1 = H at hP hS ⊢
  refine W.widen (k := 277) (n := 3929) (Nat.le_of_ble_eq_true rfl) (Nat.le_of_ble_eq_true rfl) ?_
  refine lv_pop hx hb dL_law_871 rfl ?_
  refine lv_goto (tgt := 1357) hx hb dL_law_872 (by decide) ?_
  exact lw_tail hC0 hi ⟨⟨_, _, _, _, _, _, _, _, _, _, _, _, _, _, hs, hIX, hIM⟩, hP, hD, hS, hl⟩ ih

set_option maxHeartbeats 4000000 in
set_option maxRecDepth 100000 in
theorem lw_c23 {p : Program} {l : Launch} {e : Env} {s : State} {m : MethodId} {below : List Frame} {meth : Method} {c : Code} {b L : Nat} {xs : Nat → Int32} {dC : Nat → ClassId} {dI : Nat → Nat → Nat} {cI cZ cL cJ : ClassId} {A : Nat → Prop} {H : Heap} {locs : List Loc} {ls : Array Slot} {x mo i : Nat} {wx wm : va_W} (hC : LCx p s m meth c b L xs dC dI cI cZ cL cJ A) (hi : 6 * i + 6 ≤ L) (hv : LIv dC dI cI cZ cL cJ A s b x mo i (wx, wm) H locs ls) (ih : ∀ (st2 : va_W × va_W) (H2 : Heap) (locs2 : List Loc) (ls2 : Array Slot), LIv dC dI cI cZ cL cJ A s b x mo (i + 1) st2 H2 locs2 ls2 → W p l e room_1 s m #[Value.ref b] below meth c H2 locs2 277 3929 (lw_Z below #[Value.ref b] s) (F0 m 18 ls2 [])) : W p l e room_1 s m #[Value.ref b] below meth c H locs 277 3929 (lw_Z below #[Value.ref b] s) (F0 m 875 ls []) := by
  have hC0 := hC
  obtain ⟨hx, hb, hr, hml, hown, hts, hX, hbl, hlocks, hAd, hA, hbA, hK, hst, hL⟩ := hC
  obtain ⟨⟨Rl, Rn, zt, Tb, lf, Lv, An, Ac, I0, I1, Tz, Tc, sg, It, hs, hIX, hIM⟩, hP, hD, hS, hl⟩ := hv
  refine lv_aload_n hx hb dL_law_875 rfl (lv_at hl 2 rfl) ?_
  refine lv_aload_n hx hb dL_law_876 rfl (lv_at hl 3 rfl) ?_
  refine lv_iload_n hx hb dL_law_877 rfl (lv_at hl 0 rfl) ?_
  refine lv_iconst (v := 1) hx hb dL_law_878 (by decide) ?_
  refine lv_iadd hx hb dL_law_879 ?_
  refine va_sld hx hb hX hbl hbA hS (sc_in (j := 1) (by decide) (by decide) hi hL) dL_law_880 ?_
  refine lv_topi (fun a_1 ea_1 => ?_)
  refine lv_aload_n hx hb dL_law_881 rfl (lv_at hl 3 rfl) ?_
  refine lv_iload_n hx hb dL_law_882 rfl (lv_at hl 0 rfl) ?_
  refine lv_iconst (v := 2) hx hb dL_law_883 (by decide) ?_
  refine lv_iadd hx hb dL_law_884 ?_
  refine va_sld hx hb hX hbl hbA hS (sc_in (j := 2) (by decide) (by decide) hi hL) dL_law_885 ?_
  refine lv_topi (fun a_2 ea_2 => ?_)
  obtain ⟨fs_3, hd_3⟩ := isx_hd (ys := wm) hIX
  have hFc_3 := fr_l hD hS hA
  refine va_calli (va_runV (As := [.int a_1, .int a_2]) (rest := []) ⟨hx, hb, hml, hown, hts⟩ (w_X7_share l dC dI cI cZ cL cJ H.size x _ _ _ _ _ _ _ _ _ _ _ _ _ _ wx a_1 a_2 hs hIX) (cwV 2 hts gL_law_X7_share rfl rfl rfl (by decide +kernel) ⟨Nat.le_of_ble_eq_true rfl, Nat.le_of_ble_eq_true rfl⟩) (pvL 7 hK hP hD hst hS hFc_3 rfl hd_3) rfl rfl hl.1 rfl (lv_room (Nat.le_of_ble_eq_true rfl)) dL_law_886 ⟨Nat.le_of_ble_eq_true rfl, Nat.le_of_ble_eq_true rfl⟩) hS (fun q _ h => hFc_3 q h) hFc_3 (fun r_3 u_3 t_3 H1 locs ht hvm h_3 hB hz1 hk1 hS => ?_)
  obtain ⟨wx_3, hIX, hP1, hD1⟩ := hB
  rw [ht] at hP1
  obtain ⟨hP, hD⟩ := jn2 hP hD hk1 hFc_3 hP1 hD1
  generalize H1 = H at hP hS ⊢
  refine W.widen (k := 277) (n := 3929) (Nat.le_of_ble_eq_true rfl) (Nat.le_of_ble_eq_true rfl) ?_
  refine lv_pop hx hb dL_law_889 rfl ?_
  refine lv_aload_n hx hb dL_law_890 rfl (lv_at hl 1 rfl) ?_
  refine lv_aload_n hx hb dL_law_891 rfl (lv_at hl 3 rfl) ?_
  refine lv_iload_n hx hb dL_law_892 rfl (lv_at hl 0 rfl) ?_
  refine lv_iconst (v := 1) hx hb dL_law_893 (by decide) ?_
  refine lv_iadd hx hb dL_law_894 ?_
  refine va_sld hx hb hX hbl hbA hS (sc_in (j := 1) (by decide) (by decide) hi hL) dL_law_895 ?_
  rw [← ea_1]
  refine lv_aload_n hx hb dL_law_896 rfl (lv_at hl 3 rfl) ?_
  refine lv_iload_n hx hb dL_law_897 rfl (lv_at hl 0 rfl) ?_
  refine lv_iconst (v := 2) hx hb dL_law_898 (by decide) ?_
  refine lv_iadd hx hb dL_law_899 ?_
  refine va_sld hx hb hX hbl hbA hS (sc_in (j := 2) (by decide) (by decide) hi hL) dL_law_900 ?_
  rw [← ea_2]
  obtain ⟨fs_6, hd_6⟩ := ism_hd (ys := wx_3) hIM
  have hFc_6 := fr_l hD hS hA
  refine va_calli (va_runV (As := [.int a_1, .int a_2]) (rest := []) ⟨hx, hb, hml, hown, hts⟩ (w_X8_share l dC dI cI cZ cL cJ H.size mo _ _ _ _ _ _ _ _ _ _ _ _ _ _ wm a_1 a_2 hIM) (cwV 2 hts gL_law_X8_share rfl rfl rfl (by decide +kernel) ⟨Nat.le_of_ble_eq_true rfl, Nat.le_of_ble_eq_true rfl⟩) (pvL 8 hK hP hD hst hS hFc_6 rfl hd_6) rfl rfl hl.1 rfl (lv_room (Nat.le_of_ble_eq_true rfl)) dL_law_901 ⟨Nat.le_of_ble_eq_true rfl, Nat.le_of_ble_eq_true rfl⟩) hS (fun q _ h => hFc_6 q h) hFc_6 (fun r_6 u_6 t_6 H1 locs ht hvm h_6 hB hz1 hk1 hS => ?_)
  obtain ⟨wm_6, hIM, hP1, hD1⟩ := hB
  rw [ht] at hP1
  obtain ⟨hP, hD⟩ := jn2 hP hD hk1 hFc_6 hP1 hD1
  generalize H1 = H at hP hS ⊢
  refine W.widen (k := 277) (n := 3929) (Nat.le_of_ble_eq_true rfl) (Nat.le_of_ble_eq_true rfl) ?_
  refine lv_pop hx hb dL_law_904 rfl ?_
  refine lv_goto (tgt := 1357) hx hb dL_law_905 (by decide) ?_
  exact lw_tail hC0 hi ⟨⟨_, _, _, _, _, _, _, _, _, _, _, _, _, _, hs, hIX, hIM⟩, hP, hD, hS, hl⟩ ih

set_option maxHeartbeats 4000000 in
set_option maxRecDepth 100000 in
theorem lw_c24 {p : Program} {l : Launch} {e : Env} {s : State} {m : MethodId} {below : List Frame} {meth : Method} {c : Code} {b L : Nat} {xs : Nat → Int32} {dC : Nat → ClassId} {dI : Nat → Nat → Nat} {cI cZ cL cJ : ClassId} {A : Nat → Prop} {H : Heap} {locs : List Loc} {ls : Array Slot} {x mo i : Nat} {wx wm : va_W} (hC : LCx p s m meth c b L xs dC dI cI cZ cL cJ A) (hi : 6 * i + 6 ≤ L) (hv : LIv dC dI cI cZ cL cJ A s b x mo i (wx, wm) H locs ls) (ih : ∀ (st2 : va_W × va_W) (H2 : Heap) (locs2 : List Loc) (ls2 : Array Slot), LIv dC dI cI cZ cL cJ A s b x mo (i + 1) st2 H2 locs2 ls2 → W p l e room_1 s m #[Value.ref b] below meth c H2 locs2 277 3929 (lw_Z below #[Value.ref b] s) (F0 m 18 ls2 [])) : W p l e room_1 s m #[Value.ref b] below meth c H locs 277 3929 (lw_Z below #[Value.ref b] s) (F0 m 908 ls []) := by
  have hC0 := hC
  obtain ⟨hx, hb, hr, hml, hown, hts, hX, hbl, hlocks, hAd, hA, hbA, hK, hst, hL⟩ := hC
  obtain ⟨⟨Rl, Rn, zt, Tb, lf, Lv, An, Ac, I0, I1, Tz, Tc, sg, It, hs, hIX, hIM⟩, hP, hD, hS, hl⟩ := hv
  refine lv_aload_n hx hb dL_law_908 rfl (lv_at hl 2 rfl) ?_
  refine lv_aload_n hx hb dL_law_909 rfl (lv_at hl 3 rfl) ?_
  refine lv_iload_n hx hb dL_law_910 rfl (lv_at hl 0 rfl) ?_
  refine lv_iconst (v := 1) hx hb dL_law_911 (by decide) ?_
  refine lv_iadd hx hb dL_law_912 ?_
  refine va_sld hx hb hX hbl hbA hS (sc_in (j := 1) (by decide) (by decide) hi hL) dL_law_913 ?_
  refine lv_topi (fun a_1 ea_1 => ?_)
  refine lv_aload_n hx hb dL_law_914 rfl (lv_at hl 3 rfl) ?_
  refine lv_iload_n hx hb dL_law_915 rfl (lv_at hl 0 rfl) ?_
  refine lv_iconst (v := 2) hx hb dL_law_916 (by decide) ?_
  refine lv_iadd hx hb dL_law_917 ?_
  refine va_sld hx hb hX hbl hbA hS (sc_in (j := 2) (by decide) (by decide) hi hL) dL_law_918 ?_
  refine lv_topi (fun a_2 ea_2 => ?_)
  obtain ⟨fs_3, hd_3⟩ := isx_hd (ys := wm) hIX
  have hFc_3 := fr_l hD hS hA
  refine va_calli (va_runV (As := [.int a_1, .int a_2]) (rest := []) ⟨hx, hb, hml, hown, hts⟩ (w_X7_byTurns l dC dI cI cZ cL cJ H.size x _ _ _ _ _ _ _ _ _ _ _ _ _ _ wx a_1 a_2 hs hIX) (cwV 2 hts gL_law_X7_byTurns rfl rfl rfl (by decide +kernel) ⟨Nat.le_of_ble_eq_true rfl, Nat.le_of_ble_eq_true rfl⟩) (pvL 7 hK hP hD hst hS hFc_3 rfl hd_3) rfl rfl hl.1 rfl (lv_room (Nat.le_of_ble_eq_true rfl)) dL_law_919 ⟨Nat.le_of_ble_eq_true rfl, Nat.le_of_ble_eq_true rfl⟩) hS (fun q _ h => hFc_3 q h) hFc_3 (fun r_3 u_3 t_3 H1 locs ht hvm h_3 hB hz1 hk1 hS => ?_)
  obtain ⟨wx_3, hIX, hP1, hD1⟩ := hB
  rw [ht] at hP1
  obtain ⟨hP, hD⟩ := jn2 hP hD hk1 hFc_3 hP1 hD1
  generalize H1 = H at hP hS ⊢
  refine W.widen (k := 277) (n := 3929) (Nat.le_of_ble_eq_true rfl) (Nat.le_of_ble_eq_true rfl) ?_
  refine lv_pop hx hb dL_law_922 rfl ?_
  refine lv_aload_n hx hb dL_law_923 rfl (lv_at hl 1 rfl) ?_
  refine lv_aload_n hx hb dL_law_924 rfl (lv_at hl 3 rfl) ?_
  refine lv_iload_n hx hb dL_law_925 rfl (lv_at hl 0 rfl) ?_
  refine lv_iconst (v := 1) hx hb dL_law_926 (by decide) ?_
  refine lv_iadd hx hb dL_law_927 ?_
  refine va_sld hx hb hX hbl hbA hS (sc_in (j := 1) (by decide) (by decide) hi hL) dL_law_928 ?_
  rw [← ea_1]
  refine lv_aload_n hx hb dL_law_929 rfl (lv_at hl 3 rfl) ?_
  refine lv_iload_n hx hb dL_law_930 rfl (lv_at hl 0 rfl) ?_
  refine lv_iconst (v := 2) hx hb dL_law_931 (by decide) ?_
  refine lv_iadd hx hb dL_law_932 ?_
  refine va_sld hx hb hX hbl hbA hS (sc_in (j := 2) (by decide) (by decide) hi hL) dL_law_933 ?_
  rw [← ea_2]
  obtain ⟨fs_6, hd_6⟩ := ism_hd (ys := wx_3) hIM
  have hFc_6 := fr_l hD hS hA
  refine va_calli (va_runV (As := [.int a_1, .int a_2]) (rest := []) ⟨hx, hb, hml, hown, hts⟩ (w_X8_byTurns l dC dI cI cZ cL cJ H.size mo _ _ _ _ _ _ _ _ _ _ _ _ _ _ wm a_1 a_2 hIM) (cwV 2 hts gL_law_X8_byTurns rfl rfl rfl (by decide +kernel) ⟨Nat.le_of_ble_eq_true rfl, Nat.le_of_ble_eq_true rfl⟩) (pvL 8 hK hP hD hst hS hFc_6 rfl hd_6) rfl rfl hl.1 rfl (lv_room (Nat.le_of_ble_eq_true rfl)) dL_law_934 ⟨Nat.le_of_ble_eq_true rfl, Nat.le_of_ble_eq_true rfl⟩) hS (fun q _ h => hFc_6 q h) hFc_6 (fun r_6 u_6 t_6 H1 locs ht hvm h_6 hB hz1 hk1 hS => ?_)
  obtain ⟨wm_6, hIM, hP1, hD1⟩ := hB
  rw [ht] at hP1
  obtain ⟨hP, hD⟩ := jn2 hP hD hk1 hFc_6 hP1 hD1
  generalize H1 = H at hP hS ⊢
  refine W.widen (k := 277) (n := 3929) (Nat.le_of_ble_eq_true rfl) (Nat.le_of_ble_eq_true rfl) ?_
  refine lv_pop hx hb dL_law_937 rfl ?_
  refine lv_goto (tgt := 1357) hx hb dL_law_938 (by decide) ?_
  exact lw_tail hC0 hi ⟨⟨_, _, _, _, _, _, _, _, _, _, _, _, _, _, hs, hIX, hIM⟩, hP, hD, hS, hl⟩ ih

set_option maxHeartbeats 4000000 in
set_option maxRecDepth 100000 in
theorem lw_c25 {p : Program} {l : Launch} {e : Env} {s : State} {m : MethodId} {below : List Frame} {meth : Method} {c : Code} {b L : Nat} {xs : Nat → Int32} {dC : Nat → ClassId} {dI : Nat → Nat → Nat} {cI cZ cL cJ : ClassId} {A : Nat → Prop} {H : Heap} {locs : List Loc} {ls : Array Slot} {x mo i : Nat} {wx wm : va_W} (hC : LCx p s m meth c b L xs dC dI cI cZ cL cJ A) (hi : 6 * i + 6 ≤ L) (hv : LIv dC dI cI cZ cL cJ A s b x mo i (wx, wm) H locs ls) (ih : ∀ (st2 : va_W × va_W) (H2 : Heap) (locs2 : List Loc) (ls2 : Array Slot), LIv dC dI cI cZ cL cJ A s b x mo (i + 1) st2 H2 locs2 ls2 → W p l e room_1 s m #[Value.ref b] below meth c H2 locs2 277 3929 (lw_Z below #[Value.ref b] s) (F0 m 18 ls2 [])) : W p l e room_1 s m #[Value.ref b] below meth c H locs 277 3929 (lw_Z below #[Value.ref b] s) (F0 m 941 ls []) := by
  have hC0 := hC
  obtain ⟨hx, hb, hr, hml, hown, hts, hX, hbl, hlocks, hAd, hA, hbA, hK, hst, hL⟩ := hC
  obtain ⟨⟨Rl, Rn, zt, Tb, lf, Lv, An, Ac, I0, I1, Tz, Tc, sg, It, hs, hIX, hIM⟩, hP, hD, hS, hl⟩ := hv
  refine lv_aload_n hx hb dL_law_941 rfl (lv_at hl 2 rfl) ?_
  refine lv_aload_n hx hb dL_law_942 rfl (lv_at hl 3 rfl) ?_
  refine lv_iload_n hx hb dL_law_943 rfl (lv_at hl 0 rfl) ?_
  refine lv_iconst (v := 1) hx hb dL_law_944 (by decide) ?_
  refine lv_iadd hx hb dL_law_945 ?_
  refine va_sld hx hb hX hbl hbA hS (sc_in (j := 1) (by decide) (by decide) hi hL) dL_law_946 ?_
  refine lv_topi (fun a_1 ea_1 => ?_)
  refine lv_aload_n hx hb dL_law_947 rfl (lv_at hl 3 rfl) ?_
  refine lv_iload_n hx hb dL_law_948 rfl (lv_at hl 0 rfl) ?_
  refine lv_iconst (v := 2) hx hb dL_law_949 (by decide) ?_
  refine lv_iadd hx hb dL_law_950 ?_
  refine va_sld hx hb hX hbl hbA hS (sc_in (j := 2) (by decide) (by decide) hi hL) dL_law_951 ?_
  refine lv_topi (fun a_2 ea_2 => ?_)
  refine lv_aload_n hx hb dL_law_952 rfl (lv_at hl 3 rfl) ?_
  refine lv_iload_n hx hb dL_law_953 rfl (lv_at hl 0 rfl) ?_
  refine lv_iconst (v := 3) hx hb dL_law_954 (by decide) ?_
  refine lv_iadd hx hb dL_law_955 ?_
  refine va_sld hx hb hX hbl hbA hS (sc_in (j := 3) (by decide) (by decide) hi hL) dL_law_956 ?_
  refine lv_topi (fun a_3 ea_3 => ?_)
  refine lv_aload_n hx hb dL_law_957 rfl (lv_at hl 3 rfl) ?_
  refine lv_iload_n hx hb dL_law_958 rfl (lv_at hl 0 rfl) ?_
  refine lv_iconst (v := 4) hx hb dL_law_959 (by decide) ?_
  refine lv_iadd hx hb dL_law_960 ?_
  refine va_sld hx hb hX hbl hbA hS (sc_in (j := 4) (by decide) (by decide) hi hL) dL_law_961 ?_
  refine lv_topi (fun a_4 ea_4 => ?_)
  refine lv_aload_n hx hb dL_law_962 rfl (lv_at hl 3 rfl) ?_
  refine lv_iload_n hx hb dL_law_963 rfl (lv_at hl 0 rfl) ?_
  refine lv_iconst (v := 5) hx hb dL_law_964 (by decide) ?_
  refine lv_iadd hx hb dL_law_965 ?_
  refine va_sld hx hb hX hbl hbA hS (sc_in (j := 5) (by decide) (by decide) hi hL) dL_law_966 ?_
  refine lv_topi (fun a_5 ea_5 => ?_)
  obtain ⟨fs_6, hd_6⟩ := isx_hd (ys := wm) hIX
  have hFc_6 := fr_l hD hS hA
  refine va_calli (va_runV (As := [.int a_1, .int a_2, .int a_3, .int a_4, .int a_5]) (rest := []) ⟨hx, hb, hml, hown, hts⟩ (w_X7_who l dC dI cI cZ cL cJ H.size x _ _ _ _ _ _ _ _ _ _ _ _ _ _ wx a_1 a_2 a_3 a_4 a_5 hs hIX) (cwV 5 hts gL_law_X7_who rfl rfl rfl (by decide +kernel) ⟨Nat.le_of_ble_eq_true rfl, Nat.le_of_ble_eq_true rfl⟩) (pvL 7 hK hP hD hst hS hFc_6 rfl hd_6) rfl rfl hl.1 rfl (lv_room (Nat.le_of_ble_eq_true rfl)) dL_law_967 ⟨Nat.le_of_ble_eq_true rfl, Nat.le_of_ble_eq_true rfl⟩) hS (fun q _ h => hFc_6 q h) hFc_6 (fun r_6 u_6 t_6 H1 locs ht hvm h_6 hB hz1 hk1 hS => ?_)
  obtain ⟨wx_6, hIX, hP1, hD1⟩ := hB
  rw [ht] at hP1
  obtain ⟨hP, hD⟩ := jn2 hP hD hk1 hFc_6 hP1 hD1
  generalize H1 = H at hP hS ⊢
  refine W.widen (k := 277) (n := 3929) (Nat.le_of_ble_eq_true rfl) (Nat.le_of_ble_eq_true rfl) ?_
  refine lv_pop hx hb dL_law_970 rfl ?_
  refine lv_aload_n hx hb dL_law_971 rfl (lv_at hl 1 rfl) ?_
  refine lv_aload_n hx hb dL_law_972 rfl (lv_at hl 3 rfl) ?_
  refine lv_iload_n hx hb dL_law_973 rfl (lv_at hl 0 rfl) ?_
  refine lv_iconst (v := 1) hx hb dL_law_974 (by decide) ?_
  refine lv_iadd hx hb dL_law_975 ?_
  refine va_sld hx hb hX hbl hbA hS (sc_in (j := 1) (by decide) (by decide) hi hL) dL_law_976 ?_
  rw [← ea_1]
  refine lv_aload_n hx hb dL_law_977 rfl (lv_at hl 3 rfl) ?_
  refine lv_iload_n hx hb dL_law_978 rfl (lv_at hl 0 rfl) ?_
  refine lv_iconst (v := 2) hx hb dL_law_979 (by decide) ?_
  refine lv_iadd hx hb dL_law_980 ?_
  refine va_sld hx hb hX hbl hbA hS (sc_in (j := 2) (by decide) (by decide) hi hL) dL_law_981 ?_
  rw [← ea_2]
  refine lv_aload_n hx hb dL_law_982 rfl (lv_at hl 3 rfl) ?_
  refine lv_iload_n hx hb dL_law_983 rfl (lv_at hl 0 rfl) ?_
  refine lv_iconst (v := 3) hx hb dL_law_984 (by decide) ?_
  refine lv_iadd hx hb dL_law_985 ?_
  refine va_sld hx hb hX hbl hbA hS (sc_in (j := 3) (by decide) (by decide) hi hL) dL_law_986 ?_
  rw [← ea_3]
  refine lv_aload_n hx hb dL_law_987 rfl (lv_at hl 3 rfl) ?_
  refine lv_iload_n hx hb dL_law_988 rfl (lv_at hl 0 rfl) ?_
  refine lv_iconst (v := 4) hx hb dL_law_989 (by decide) ?_
  refine lv_iadd hx hb dL_law_990 ?_
  refine va_sld hx hb hX hbl hbA hS (sc_in (j := 4) (by decide) (by decide) hi hL) dL_law_991 ?_
  rw [← ea_4]
  refine lv_aload_n hx hb dL_law_992 rfl (lv_at hl 3 rfl) ?_
  refine lv_iload_n hx hb dL_law_993 rfl (lv_at hl 0 rfl) ?_
  refine lv_iconst (v := 5) hx hb dL_law_994 (by decide) ?_
  refine lv_iadd hx hb dL_law_995 ?_
  refine va_sld hx hb hX hbl hbA hS (sc_in (j := 5) (by decide) (by decide) hi hL) dL_law_996 ?_
  rw [← ea_5]
  obtain ⟨fs_12, hd_12⟩ := ism_hd (ys := wx_6) hIM
  have hFc_12 := fr_l hD hS hA
  refine va_calli (va_runV (As := [.int a_1, .int a_2, .int a_3, .int a_4, .int a_5]) (rest := []) ⟨hx, hb, hml, hown, hts⟩ (w_X8_who l dC dI cI cZ cL cJ H.size mo _ _ _ _ _ _ _ _ _ _ _ _ _ _ wm a_1 a_2 a_3 a_4 a_5 hIM) (cwV 5 hts gL_law_X8_who rfl rfl rfl (by decide +kernel) ⟨Nat.le_of_ble_eq_true rfl, Nat.le_of_ble_eq_true rfl⟩) (pvL 8 hK hP hD hst hS hFc_12 rfl hd_12) rfl rfl hl.1 rfl (lv_room (Nat.le_of_ble_eq_true rfl)) dL_law_997 ⟨Nat.le_of_ble_eq_true rfl, Nat.le_of_ble_eq_true rfl⟩) hS (fun q _ h => hFc_12 q h) hFc_12 (fun r_12 u_12 t_12 H1 locs ht hvm h_12 hB hz1 hk1 hS => ?_)
  obtain ⟨wm_12, hIM, hP1, hD1⟩ := hB
  rw [ht] at hP1
  obtain ⟨hP, hD⟩ := jn2 hP hD hk1 hFc_12 hP1 hD1
  generalize H1 = H at hP hS ⊢
  refine W.widen (k := 277) (n := 3929) (Nat.le_of_ble_eq_true rfl) (Nat.le_of_ble_eq_true rfl) ?_
  refine lv_pop hx hb dL_law_1000 rfl ?_
  refine lv_goto (tgt := 1357) hx hb dL_law_1001 (by decide) ?_
  exact lw_tail hC0 hi ⟨⟨_, _, _, _, _, _, _, _, _, _, _, _, _, _, hs, hIX, hIM⟩, hP, hD, hS, hl⟩ ih

-- 81.lawc2
set_option maxHeartbeats 4000000 in
set_option maxRecDepth 100000 in
theorem lw_c26 {p : Program} {l : Launch} {e : Env} {s : State} {m : MethodId} {below : List Frame} {meth : Method} {c : Code} {b L : Nat} {xs : Nat → Int32} {dC : Nat → ClassId} {dI : Nat → Nat → Nat} {cI cZ cL cJ : ClassId} {A : Nat → Prop} {H : Heap} {locs : List Loc} {ls : Array Slot} {x mo i : Nat} {wx wm : va_W} (hC : LCx p s m meth c b L xs dC dI cI cZ cL cJ A) (hi : 6 * i + 6 ≤ L) (hv : LIv dC dI cI cZ cL cJ A s b x mo i (wx, wm) H locs ls) (ih : ∀ (st2 : va_W × va_W) (H2 : Heap) (locs2 : List Loc) (ls2 : Array Slot), LIv dC dI cI cZ cL cJ A s b x mo (i + 1) st2 H2 locs2 ls2 → W p l e room_1 s m #[Value.ref b] below meth c H2 locs2 277 3929 (lw_Z below #[Value.ref b] s) (F0 m 18 ls2 [])) : W p l e room_1 s m #[Value.ref b] below meth c H locs 277 3929 (lw_Z below #[Value.ref b] s) (F0 m 1004 ls []) := by
  have hC0 := hC
  obtain ⟨hx, hb, hr, hml, hown, hts, hX, hbl, hlocks, hAd, hA, hbA, hK, hst, hL⟩ := hC
  obtain ⟨⟨Rl, Rn, zt, Tb, lf, Lv, An, Ac, I0, I1, Tz, Tc, sg, It, hs, hIX, hIM⟩, hP, hD, hS, hl⟩ := hv
  refine lv_aload_n hx hb dL_law_1004 rfl (lv_at hl 2 rfl) ?_
  refine lv_aload_n hx hb dL_law_1005 rfl (lv_at hl 3 rfl) ?_
  refine lv_iload_n hx hb dL_law_1006 rfl (lv_at hl 0 rfl) ?_
  refine lv_iconst (v := 1) hx hb dL_law_1007 (by decide) ?_
  refine lv_iadd hx hb dL_law_1008 ?_
  refine va_sld hx hb hX hbl hbA hS (sc_in (j := 1) (by decide) (by decide) hi hL) dL_law_1009 ?_
  refine lv_topi (fun a_1 ea_1 => ?_)
  refine lv_aload_n hx hb dL_law_1010 rfl (lv_at hl 3 rfl) ?_
  refine lv_iload_n hx hb dL_law_1011 rfl (lv_at hl 0 rfl) ?_
  refine lv_iconst (v := 2) hx hb dL_law_1012 (by decide) ?_
  refine lv_iadd hx hb dL_law_1013 ?_
  refine va_sld hx hb hX hbl hbA hS (sc_in (j := 2) (by decide) (by decide) hi hL) dL_law_1014 ?_
  refine lv_topi (fun a_2 ea_2 => ?_)
  refine lv_aload_n hx hb dL_law_1015 rfl (lv_at hl 3 rfl) ?_
  refine lv_iload_n hx hb dL_law_1016 rfl (lv_at hl 0 rfl) ?_
  refine lv_iconst (v := 3) hx hb dL_law_1017 (by decide) ?_
  refine lv_iadd hx hb dL_law_1018 ?_
  refine va_sld hx hb hX hbl hbA hS (sc_in (j := 3) (by decide) (by decide) hi hL) dL_law_1019 ?_
  refine lv_topi (fun a_3 ea_3 => ?_)
  refine lv_aload_n hx hb dL_law_1020 rfl (lv_at hl 3 rfl) ?_
  refine lv_iload_n hx hb dL_law_1021 rfl (lv_at hl 0 rfl) ?_
  refine lv_iconst (v := 4) hx hb dL_law_1022 (by decide) ?_
  refine lv_iadd hx hb dL_law_1023 ?_
  refine va_sld hx hb hX hbl hbA hS (sc_in (j := 4) (by decide) (by decide) hi hL) dL_law_1024 ?_
  refine lv_topi (fun a_4 ea_4 => ?_)
  refine lv_aload_n hx hb dL_law_1025 rfl (lv_at hl 3 rfl) ?_
  refine lv_iload_n hx hb dL_law_1026 rfl (lv_at hl 0 rfl) ?_
  refine lv_iconst (v := 5) hx hb dL_law_1027 (by decide) ?_
  refine lv_iadd hx hb dL_law_1028 ?_
  refine va_sld hx hb hX hbl hbA hS (sc_in (j := 5) (by decide) (by decide) hi hL) dL_law_1029 ?_
  refine lv_topi (fun a_5 ea_5 => ?_)
  obtain ⟨fs_6, hd_6⟩ := isx_hd (ys := wm) hIX
  have hFc_6 := fr_l hD hS hA
  refine va_calli (va_runV (As := [.int a_1, .int a_2, .int a_3, .int a_4, .int a_5]) (rest := []) ⟨hx, hb, hml, hown, hts⟩ (w_X7_gusts l dC dI cI cZ cL cJ H.size x _ _ _ _ _ _ _ _ _ _ _ _ _ _ wx a_1 a_2 a_3 a_4 a_5 hs hIX) (cwV 5 hts gL_law_X7_gusts rfl rfl rfl (by decide +kernel) ⟨Nat.le_of_ble_eq_true rfl, Nat.le_of_ble_eq_true rfl⟩) (pvL 7 hK hP hD hst hS hFc_6 rfl hd_6) rfl rfl hl.1 rfl (lv_room (Nat.le_of_ble_eq_true rfl)) dL_law_1030 ⟨Nat.le_of_ble_eq_true rfl, Nat.le_of_ble_eq_true rfl⟩) hS (fun q _ h => hFc_6 q h) hFc_6 (fun r_6 u_6 t_6 H1 locs ht hvm h_6 hB hz1 hk1 hS => ?_)
  obtain ⟨wx_6, hIX, hP1, hD1⟩ := hB
  rw [ht] at hP1
  obtain ⟨hP, hD⟩ := jn2 hP hD hk1 hFc_6 hP1 hD1
  generalize H1 = H at hP hS ⊢
  refine W.widen (k := 277) (n := 3929) (Nat.le_of_ble_eq_true rfl) (Nat.le_of_ble_eq_true rfl) ?_
  refine lv_pop hx hb dL_law_1033 rfl ?_
  refine lv_aload_n hx hb dL_law_1034 rfl (lv_at hl 1 rfl) ?_
  refine lv_aload_n hx hb dL_law_1035 rfl (lv_at hl 3 rfl) ?_
  refine lv_iload_n hx hb dL_law_1036 rfl (lv_at hl 0 rfl) ?_
  refine lv_iconst (v := 1) hx hb dL_law_1037 (by decide) ?_
  refine lv_iadd hx hb dL_law_1038 ?_
  refine va_sld hx hb hX hbl hbA hS (sc_in (j := 1) (by decide) (by decide) hi hL) dL_law_1039 ?_
  rw [← ea_1]
  refine lv_aload_n hx hb dL_law_1040 rfl (lv_at hl 3 rfl) ?_
  refine lv_iload_n hx hb dL_law_1041 rfl (lv_at hl 0 rfl) ?_
  refine lv_iconst (v := 2) hx hb dL_law_1042 (by decide) ?_
  refine lv_iadd hx hb dL_law_1043 ?_
  refine va_sld hx hb hX hbl hbA hS (sc_in (j := 2) (by decide) (by decide) hi hL) dL_law_1044 ?_
  rw [← ea_2]
  refine lv_aload_n hx hb dL_law_1045 rfl (lv_at hl 3 rfl) ?_
  refine lv_iload_n hx hb dL_law_1046 rfl (lv_at hl 0 rfl) ?_
  refine lv_iconst (v := 3) hx hb dL_law_1047 (by decide) ?_
  refine lv_iadd hx hb dL_law_1048 ?_
  refine va_sld hx hb hX hbl hbA hS (sc_in (j := 3) (by decide) (by decide) hi hL) dL_law_1049 ?_
  rw [← ea_3]
  refine lv_aload_n hx hb dL_law_1050 rfl (lv_at hl 3 rfl) ?_
  refine lv_iload_n hx hb dL_law_1051 rfl (lv_at hl 0 rfl) ?_
  refine lv_iconst (v := 4) hx hb dL_law_1052 (by decide) ?_
  refine lv_iadd hx hb dL_law_1053 ?_
  refine va_sld hx hb hX hbl hbA hS (sc_in (j := 4) (by decide) (by decide) hi hL) dL_law_1054 ?_
  rw [← ea_4]
  refine lv_aload_n hx hb dL_law_1055 rfl (lv_at hl 3 rfl) ?_
  refine lv_iload_n hx hb dL_law_1056 rfl (lv_at hl 0 rfl) ?_
  refine lv_iconst (v := 5) hx hb dL_law_1057 (by decide) ?_
  refine lv_iadd hx hb dL_law_1058 ?_
  refine va_sld hx hb hX hbl hbA hS (sc_in (j := 5) (by decide) (by decide) hi hL) dL_law_1059 ?_
  rw [← ea_5]
  obtain ⟨fs_12, hd_12⟩ := ism_hd (ys := wx_6) hIM
  have hFc_12 := fr_l hD hS hA
  refine va_calli (va_runV (As := [.int a_1, .int a_2, .int a_3, .int a_4, .int a_5]) (rest := []) ⟨hx, hb, hml, hown, hts⟩ (w_X8_gusts l dC dI cI cZ cL cJ H.size mo _ _ _ _ _ _ _ _ _ _ _ _ _ _ wm a_1 a_2 a_3 a_4 a_5 hIM) (cwV 5 hts gL_law_X8_gusts rfl rfl rfl (by decide +kernel) ⟨Nat.le_of_ble_eq_true rfl, Nat.le_of_ble_eq_true rfl⟩) (pvL 8 hK hP hD hst hS hFc_12 rfl hd_12) rfl rfl hl.1 rfl (lv_room (Nat.le_of_ble_eq_true rfl)) dL_law_1060 ⟨Nat.le_of_ble_eq_true rfl, Nat.le_of_ble_eq_true rfl⟩) hS (fun q _ h => hFc_12 q h) hFc_12 (fun r_12 u_12 t_12 H1 locs ht hvm h_12 hB hz1 hk1 hS => ?_)
  obtain ⟨wm_12, hIM, hP1, hD1⟩ := hB
  rw [ht] at hP1
  obtain ⟨hP, hD⟩ := jn2 hP hD hk1 hFc_12 hP1 hD1
  generalize H1 = H at hP hS ⊢
  refine W.widen (k := 277) (n := 3929) (Nat.le_of_ble_eq_true rfl) (Nat.le_of_ble_eq_true rfl) ?_
  refine lv_pop hx hb dL_law_1063 rfl ?_
  refine lv_goto (tgt := 1357) hx hb dL_law_1064 (by decide) ?_
  exact lw_tail hC0 hi ⟨⟨_, _, _, _, _, _, _, _, _, _, _, _, _, _, hs, hIX, hIM⟩, hP, hD, hS, hl⟩ ih

set_option maxHeartbeats 4000000 in
set_option maxRecDepth 100000 in
theorem lw_c27 {p : Program} {l : Launch} {e : Env} {s : State} {m : MethodId} {below : List Frame} {meth : Method} {c : Code} {b L : Nat} {xs : Nat → Int32} {dC : Nat → ClassId} {dI : Nat → Nat → Nat} {cI cZ cL cJ : ClassId} {A : Nat → Prop} {H : Heap} {locs : List Loc} {ls : Array Slot} {x mo i : Nat} {wx wm : va_W} (hC : LCx p s m meth c b L xs dC dI cI cZ cL cJ A) (hi : 6 * i + 6 ≤ L) (hv : LIv dC dI cI cZ cL cJ A s b x mo i (wx, wm) H locs ls) (ih : ∀ (st2 : va_W × va_W) (H2 : Heap) (locs2 : List Loc) (ls2 : Array Slot), LIv dC dI cI cZ cL cJ A s b x mo (i + 1) st2 H2 locs2 ls2 → W p l e room_1 s m #[Value.ref b] below meth c H2 locs2 277 3929 (lw_Z below #[Value.ref b] s) (F0 m 18 ls2 [])) : W p l e room_1 s m #[Value.ref b] below meth c H locs 277 3929 (lw_Z below #[Value.ref b] s) (F0 m 1067 ls []) := by
  have hC0 := hC
  obtain ⟨hx, hb, hr, hml, hown, hts, hX, hbl, hlocks, hAd, hA, hbA, hK, hst, hL⟩ := hC
  obtain ⟨⟨Rl, Rn, zt, Tb, lf, Lv, An, Ac, I0, I1, Tz, Tc, sg, It, hs, hIX, hIM⟩, hP, hD, hS, hl⟩ := hv
  refine lv_aload_n hx hb dL_law_1067 rfl (lv_at hl 2 rfl) ?_
  refine lv_aload_n hx hb dL_law_1068 rfl (lv_at hl 3 rfl) ?_
  refine lv_iload_n hx hb dL_law_1069 rfl (lv_at hl 0 rfl) ?_
  refine lv_iconst (v := 1) hx hb dL_law_1070 (by decide) ?_
  refine lv_iadd hx hb dL_law_1071 ?_
  refine va_sld hx hb hX hbl hbA hS (sc_in (j := 1) (by decide) (by decide) hi hL) dL_law_1072 ?_
  refine lv_topi (fun a_1 ea_1 => ?_)
  refine lv_aload_n hx hb dL_law_1073 rfl (lv_at hl 3 rfl) ?_
  refine lv_iload_n hx hb dL_law_1074 rfl (lv_at hl 0 rfl) ?_
  refine lv_iconst (v := 2) hx hb dL_law_1075 (by decide) ?_
  refine lv_iadd hx hb dL_law_1076 ?_
  refine va_sld hx hb hX hbl hbA hS (sc_in (j := 2) (by decide) (by decide) hi hL) dL_law_1077 ?_
  refine lv_topi (fun a_2 ea_2 => ?_)
  refine lv_aload_n hx hb dL_law_1078 rfl (lv_at hl 3 rfl) ?_
  refine lv_iload_n hx hb dL_law_1079 rfl (lv_at hl 0 rfl) ?_
  refine lv_iconst (v := 3) hx hb dL_law_1080 (by decide) ?_
  refine lv_iadd hx hb dL_law_1081 ?_
  refine va_sld hx hb hX hbl hbA hS (sc_in (j := 3) (by decide) (by decide) hi hL) dL_law_1082 ?_
  refine lv_topi (fun a_3 ea_3 => ?_)
  refine lv_aload_n hx hb dL_law_1083 rfl (lv_at hl 3 rfl) ?_
  refine lv_iload_n hx hb dL_law_1084 rfl (lv_at hl 0 rfl) ?_
  refine lv_iconst (v := 4) hx hb dL_law_1085 (by decide) ?_
  refine lv_iadd hx hb dL_law_1086 ?_
  refine va_sld hx hb hX hbl hbA hS (sc_in (j := 4) (by decide) (by decide) hi hL) dL_law_1087 ?_
  refine lv_topi (fun a_4 ea_4 => ?_)
  obtain ⟨fs_5, hd_5⟩ := isx_hd (ys := wm) hIX
  have hFc_5 := fr_l hD hS hA
  refine va_calll (va_runV (As := [.int a_1, .int a_2, .int a_3, .int a_4]) (rest := []) ⟨hx, hb, hml, hown, hts⟩ (w_X7_calm l dC dI cI cZ cL cJ H.size x _ _ _ _ _ _ _ _ _ _ _ _ _ _ wx a_1 a_2 a_3 a_4 hs hIX) (cwV 4 hts gL_law_X7_calm rfl rfl rfl (by decide +kernel) ⟨Nat.le_of_ble_eq_true rfl, Nat.le_of_ble_eq_true rfl⟩) (pvL 7 hK hP hD hst hS hFc_5 rfl hd_5) rfl rfl hl.1 rfl (lv_room (Nat.le_of_ble_eq_true rfl)) dL_law_1088 ⟨Nat.le_of_ble_eq_true rfl, Nat.le_of_ble_eq_true rfl⟩) hS (fun q _ h => hFc_5 q h) hFc_5 (fun r_5 u_5 t_5 H1 locs ht hvm h_5 hB hz1 hk1 hS => ?_)
  obtain ⟨wx_5, hIX, hP1, hD1⟩ := hB
  rw [ht] at hP1
  obtain ⟨hP, hD⟩ := jn2 hP hD hk1 hFc_5 hP1 hD1
  generalize H1 = H at hP hS ⊢
  refine W.widen (k := 277) (n := 3929) (Nat.le_of_ble_eq_true rfl) (Nat.le_of_ble_eq_true rfl) ?_
  refine lv_pop2_2 hx hb dL_law_1091 rfl ?_
  refine lv_aload_n hx hb dL_law_1092 rfl (lv_at hl 1 rfl) ?_
  refine lv_aload_n hx hb dL_law_1093 rfl (lv_at hl 3 rfl) ?_
  refine lv_iload_n hx hb dL_law_1094 rfl (lv_at hl 0 rfl) ?_
  refine lv_iconst (v := 1) hx hb dL_law_1095 (by decide) ?_
  refine lv_iadd hx hb dL_law_1096 ?_
  refine va_sld hx hb hX hbl hbA hS (sc_in (j := 1) (by decide) (by decide) hi hL) dL_law_1097 ?_
  rw [← ea_1]
  refine lv_aload_n hx hb dL_law_1098 rfl (lv_at hl 3 rfl) ?_
  refine lv_iload_n hx hb dL_law_1099 rfl (lv_at hl 0 rfl) ?_
  refine lv_iconst (v := 2) hx hb dL_law_1100 (by decide) ?_
  refine lv_iadd hx hb dL_law_1101 ?_
  refine va_sld hx hb hX hbl hbA hS (sc_in (j := 2) (by decide) (by decide) hi hL) dL_law_1102 ?_
  rw [← ea_2]
  refine lv_aload_n hx hb dL_law_1103 rfl (lv_at hl 3 rfl) ?_
  refine lv_iload_n hx hb dL_law_1104 rfl (lv_at hl 0 rfl) ?_
  refine lv_iconst (v := 3) hx hb dL_law_1105 (by decide) ?_
  refine lv_iadd hx hb dL_law_1106 ?_
  refine va_sld hx hb hX hbl hbA hS (sc_in (j := 3) (by decide) (by decide) hi hL) dL_law_1107 ?_
  rw [← ea_3]
  refine lv_aload_n hx hb dL_law_1108 rfl (lv_at hl 3 rfl) ?_
  refine lv_iload_n hx hb dL_law_1109 rfl (lv_at hl 0 rfl) ?_
  refine lv_iconst (v := 4) hx hb dL_law_1110 (by decide) ?_
  refine lv_iadd hx hb dL_law_1111 ?_
  refine va_sld hx hb hX hbl hbA hS (sc_in (j := 4) (by decide) (by decide) hi hL) dL_law_1112 ?_
  rw [← ea_4]
  obtain ⟨fs_10, hd_10⟩ := ism_hd (ys := wx_5) hIM
  have hFc_10 := fr_l hD hS hA
  refine va_calll (va_runV (As := [.int a_1, .int a_2, .int a_3, .int a_4]) (rest := []) ⟨hx, hb, hml, hown, hts⟩ (w_X8_calm l dC dI cI cZ cL cJ H.size mo _ _ _ _ _ _ _ _ _ _ _ _ _ _ wm a_1 a_2 a_3 a_4 hIM) (cwV 4 hts gL_law_X8_calm rfl rfl rfl (by decide +kernel) ⟨Nat.le_of_ble_eq_true rfl, Nat.le_of_ble_eq_true rfl⟩) (pvL 8 hK hP hD hst hS hFc_10 rfl hd_10) rfl rfl hl.1 rfl (lv_room (Nat.le_of_ble_eq_true rfl)) dL_law_1113 ⟨Nat.le_of_ble_eq_true rfl, Nat.le_of_ble_eq_true rfl⟩) hS (fun q _ h => hFc_10 q h) hFc_10 (fun r_10 u_10 t_10 H1 locs ht hvm h_10 hB hz1 hk1 hS => ?_)
  obtain ⟨wm_10, hIM, hP1, hD1⟩ := hB
  rw [ht] at hP1
  obtain ⟨hP, hD⟩ := jn2 hP hD hk1 hFc_10 hP1 hD1
  generalize H1 = H at hP hS ⊢
  refine W.widen (k := 277) (n := 3929) (Nat.le_of_ble_eq_true rfl) (Nat.le_of_ble_eq_true rfl) ?_
  refine lv_pop2_2 hx hb dL_law_1116 rfl ?_
  refine lv_goto (tgt := 1357) hx hb dL_law_1117 (by decide) ?_
  exact lw_tail hC0 hi ⟨⟨_, _, _, _, _, _, _, _, _, _, _, _, _, _, hs, hIX, hIM⟩, hP, hD, hS, hl⟩ ih

set_option maxHeartbeats 4000000 in
set_option maxRecDepth 100000 in
theorem lw_c28 {p : Program} {l : Launch} {e : Env} {s : State} {m : MethodId} {below : List Frame} {meth : Method} {c : Code} {b L : Nat} {xs : Nat → Int32} {dC : Nat → ClassId} {dI : Nat → Nat → Nat} {cI cZ cL cJ : ClassId} {A : Nat → Prop} {H : Heap} {locs : List Loc} {ls : Array Slot} {x mo i : Nat} {wx wm : va_W} (hC : LCx p s m meth c b L xs dC dI cI cZ cL cJ A) (hi : 6 * i + 6 ≤ L) (hv : LIv dC dI cI cZ cL cJ A s b x mo i (wx, wm) H locs ls) (ih : ∀ (st2 : va_W × va_W) (H2 : Heap) (locs2 : List Loc) (ls2 : Array Slot), LIv dC dI cI cZ cL cJ A s b x mo (i + 1) st2 H2 locs2 ls2 → W p l e room_1 s m #[Value.ref b] below meth c H2 locs2 277 3929 (lw_Z below #[Value.ref b] s) (F0 m 18 ls2 [])) : W p l e room_1 s m #[Value.ref b] below meth c H locs 277 3929 (lw_Z below #[Value.ref b] s) (F0 m 1120 ls []) := by
  have hC0 := hC
  obtain ⟨hx, hb, hr, hml, hown, hts, hX, hbl, hlocks, hAd, hA, hbA, hK, hst, hL⟩ := hC
  obtain ⟨⟨Rl, Rn, zt, Tb, lf, Lv, An, Ac, I0, I1, Tz, Tc, sg, It, hs, hIX, hIM⟩, hP, hD, hS, hl⟩ := hv
  refine lv_aload_n hx hb dL_law_1120 rfl (lv_at hl 2 rfl) ?_
  refine lv_aload_n hx hb dL_law_1121 rfl (lv_at hl 3 rfl) ?_
  refine lv_iload_n hx hb dL_law_1122 rfl (lv_at hl 0 rfl) ?_
  refine lv_iconst (v := 1) hx hb dL_law_1123 (by decide) ?_
  refine lv_iadd hx hb dL_law_1124 ?_
  refine va_sld hx hb hX hbl hbA hS (sc_in (j := 1) (by decide) (by decide) hi hL) dL_law_1125 ?_
  refine lv_topi (fun a_1 ea_1 => ?_)
  refine lv_aload_n hx hb dL_law_1126 rfl (lv_at hl 3 rfl) ?_
  refine lv_iload_n hx hb dL_law_1127 rfl (lv_at hl 0 rfl) ?_
  refine lv_iconst (v := 2) hx hb dL_law_1128 (by decide) ?_
  refine lv_iadd hx hb dL_law_1129 ?_
  refine va_sld hx hb hX hbl hbA hS (sc_in (j := 2) (by decide) (by decide) hi hL) dL_law_1130 ?_
  refine lv_topi (fun a_2 ea_2 => ?_)
  refine lv_aload_n hx hb dL_law_1131 rfl (lv_at hl 3 rfl) ?_
  refine lv_iload_n hx hb dL_law_1132 rfl (lv_at hl 0 rfl) ?_
  refine lv_iconst (v := 3) hx hb dL_law_1133 (by decide) ?_
  refine lv_iadd hx hb dL_law_1134 ?_
  refine va_sld hx hb hX hbl hbA hS (sc_in (j := 3) (by decide) (by decide) hi hL) dL_law_1135 ?_
  refine lv_topi (fun a_3 ea_3 => ?_)
  obtain ⟨fs_4, hd_4⟩ := isx_hd (ys := wm) hIX
  have hFc_4 := fr_l hD hS hA
  refine va_calli (va_runV (As := [.int a_1, .int a_2, .int a_3]) (rest := []) ⟨hx, hb, hml, hown, hts⟩ (w_X7_drawn l dC dI cI cZ cL cJ H.size x _ _ _ _ _ _ _ _ _ _ _ _ _ _ wx a_1 a_2 a_3 hs hIX) (cwV 3 hts gL_law_X7_drawn rfl rfl rfl (by decide +kernel) ⟨Nat.le_of_ble_eq_true rfl, Nat.le_of_ble_eq_true rfl⟩) (pvL 7 hK hP hD hst hS hFc_4 rfl hd_4) rfl rfl hl.1 rfl (lv_room (Nat.le_of_ble_eq_true rfl)) dL_law_1136 ⟨Nat.le_of_ble_eq_true rfl, Nat.le_of_ble_eq_true rfl⟩) hS (fun q _ h => hFc_4 q h) hFc_4 (fun r_4 u_4 t_4 H1 locs ht hvm h_4 hB hz1 hk1 hS => ?_)
  obtain ⟨wx_4, hIX, hP1, hD1⟩ := hB
  rw [ht] at hP1
  obtain ⟨hP, hD⟩ := jn2 hP hD hk1 hFc_4 hP1 hD1
  generalize H1 = H at hP hS ⊢
  refine W.widen (k := 277) (n := 3929) (Nat.le_of_ble_eq_true rfl) (Nat.le_of_ble_eq_true rfl) ?_
  refine lv_pop hx hb dL_law_1139 rfl ?_
  refine lv_aload_n hx hb dL_law_1140 rfl (lv_at hl 1 rfl) ?_
  refine lv_aload_n hx hb dL_law_1141 rfl (lv_at hl 3 rfl) ?_
  refine lv_iload_n hx hb dL_law_1142 rfl (lv_at hl 0 rfl) ?_
  refine lv_iconst (v := 1) hx hb dL_law_1143 (by decide) ?_
  refine lv_iadd hx hb dL_law_1144 ?_
  refine va_sld hx hb hX hbl hbA hS (sc_in (j := 1) (by decide) (by decide) hi hL) dL_law_1145 ?_
  rw [← ea_1]
  refine lv_aload_n hx hb dL_law_1146 rfl (lv_at hl 3 rfl) ?_
  refine lv_iload_n hx hb dL_law_1147 rfl (lv_at hl 0 rfl) ?_
  refine lv_iconst (v := 2) hx hb dL_law_1148 (by decide) ?_
  refine lv_iadd hx hb dL_law_1149 ?_
  refine va_sld hx hb hX hbl hbA hS (sc_in (j := 2) (by decide) (by decide) hi hL) dL_law_1150 ?_
  rw [← ea_2]
  refine lv_aload_n hx hb dL_law_1151 rfl (lv_at hl 3 rfl) ?_
  refine lv_iload_n hx hb dL_law_1152 rfl (lv_at hl 0 rfl) ?_
  refine lv_iconst (v := 3) hx hb dL_law_1153 (by decide) ?_
  refine lv_iadd hx hb dL_law_1154 ?_
  refine va_sld hx hb hX hbl hbA hS (sc_in (j := 3) (by decide) (by decide) hi hL) dL_law_1155 ?_
  rw [← ea_3]
  obtain ⟨fs_8, hd_8⟩ := ism_hd (ys := wx_4) hIM
  have hFc_8 := fr_l hD hS hA
  refine va_calli (va_runV (As := [.int a_1, .int a_2, .int a_3]) (rest := []) ⟨hx, hb, hml, hown, hts⟩ (w_X8_drawn l dC dI cI cZ cL cJ H.size mo _ _ _ _ _ _ _ _ _ _ _ _ _ _ wm a_1 a_2 a_3 hIM) (cwV 3 hts gL_law_X8_drawn rfl rfl rfl (by decide +kernel) ⟨Nat.le_of_ble_eq_true rfl, Nat.le_of_ble_eq_true rfl⟩) (pvL 8 hK hP hD hst hS hFc_8 rfl hd_8) rfl rfl hl.1 rfl (lv_room (Nat.le_of_ble_eq_true rfl)) dL_law_1156 ⟨Nat.le_of_ble_eq_true rfl, Nat.le_of_ble_eq_true rfl⟩) hS (fun q _ h => hFc_8 q h) hFc_8 (fun r_8 u_8 t_8 H1 locs ht hvm h_8 hB hz1 hk1 hS => ?_)
  obtain ⟨wm_8, hIM, hP1, hD1⟩ := hB
  rw [ht] at hP1
  obtain ⟨hP, hD⟩ := jn2 hP hD hk1 hFc_8 hP1 hD1
  generalize H1 = H at hP hS ⊢
  refine W.widen (k := 277) (n := 3929) (Nat.le_of_ble_eq_true rfl) (Nat.le_of_ble_eq_true rfl) ?_
  refine lv_pop hx hb dL_law_1159 rfl ?_
  refine lv_goto (tgt := 1357) hx hb dL_law_1160 (by decide) ?_
  exact lw_tail hC0 hi ⟨⟨_, _, _, _, _, _, _, _, _, _, _, _, _, _, hs, hIX, hIM⟩, hP, hD, hS, hl⟩ ih

set_option maxHeartbeats 4000000 in
set_option maxRecDepth 100000 in
theorem lw_c29 {p : Program} {l : Launch} {e : Env} {s : State} {m : MethodId} {below : List Frame} {meth : Method} {c : Code} {b L : Nat} {xs : Nat → Int32} {dC : Nat → ClassId} {dI : Nat → Nat → Nat} {cI cZ cL cJ : ClassId} {A : Nat → Prop} {H : Heap} {locs : List Loc} {ls : Array Slot} {x mo i : Nat} {wx wm : va_W} (hC : LCx p s m meth c b L xs dC dI cI cZ cL cJ A) (hi : 6 * i + 6 ≤ L) (hv : LIv dC dI cI cZ cL cJ A s b x mo i (wx, wm) H locs ls) (ih : ∀ (st2 : va_W × va_W) (H2 : Heap) (locs2 : List Loc) (ls2 : Array Slot), LIv dC dI cI cZ cL cJ A s b x mo (i + 1) st2 H2 locs2 ls2 → W p l e room_1 s m #[Value.ref b] below meth c H2 locs2 277 3929 (lw_Z below #[Value.ref b] s) (F0 m 18 ls2 [])) : W p l e room_1 s m #[Value.ref b] below meth c H locs 277 3929 (lw_Z below #[Value.ref b] s) (F0 m 1163 ls []) := by
  have hC0 := hC
  obtain ⟨hx, hb, hr, hml, hown, hts, hX, hbl, hlocks, hAd, hA, hbA, hK, hst, hL⟩ := hC
  obtain ⟨⟨Rl, Rn, zt, Tb, lf, Lv, An, Ac, I0, I1, Tz, Tc, sg, It, hs, hIX, hIM⟩, hP, hD, hS, hl⟩ := hv
  refine lv_aload_n hx hb dL_law_1163 rfl (lv_at hl 2 rfl) ?_
  refine lv_aload_n hx hb dL_law_1164 rfl (lv_at hl 3 rfl) ?_
  refine lv_iload_n hx hb dL_law_1165 rfl (lv_at hl 0 rfl) ?_
  refine lv_iconst (v := 1) hx hb dL_law_1166 (by decide) ?_
  refine lv_iadd hx hb dL_law_1167 ?_
  refine va_sld hx hb hX hbl hbA hS (sc_in (j := 1) (by decide) (by decide) hi hL) dL_law_1168 ?_
  refine lv_topi (fun a_1 ea_1 => ?_)
  obtain ⟨fs_2, hd_2⟩ := isx_hd (ys := wm) hIX
  have hFc_2 := fr_l hD hS hA
  refine va_calli (va_runV (As := [.int a_1]) (rest := []) ⟨hx, hb, hml, hown, hts⟩ (w_X7_image l dC dI cI cZ cL cJ H.size x _ _ _ _ _ _ _ _ _ _ _ _ _ _ wx a_1 hs hIX) (cwV 1 hts gL_law_X7_image rfl rfl rfl (by decide +kernel) ⟨Nat.le_of_ble_eq_true rfl, Nat.le_of_ble_eq_true rfl⟩) (pvL 7 hK hP hD hst hS hFc_2 rfl hd_2) rfl rfl hl.1 rfl (lv_room (Nat.le_of_ble_eq_true rfl)) dL_law_1169 ⟨Nat.le_of_ble_eq_true rfl, Nat.le_of_ble_eq_true rfl⟩) hS (fun q _ h => hFc_2 q h) hFc_2 (fun r_2 u_2 t_2 H1 locs ht hvm h_2 hB hz1 hk1 hS => ?_)
  obtain ⟨wx_2, hIX, hP1, hD1⟩ := hB
  rw [ht] at hP1
  obtain ⟨hP, hD⟩ := jn2 hP hD hk1 hFc_2 hP1 hD1
  generalize H1 = H at hP hS ⊢
  refine W.widen (k := 277) (n := 3929) (Nat.le_of_ble_eq_true rfl) (Nat.le_of_ble_eq_true rfl) ?_
  refine lv_pop hx hb dL_law_1172 rfl ?_
  refine lv_aload_n hx hb dL_law_1173 rfl (lv_at hl 1 rfl) ?_
  refine lv_aload_n hx hb dL_law_1174 rfl (lv_at hl 3 rfl) ?_
  refine lv_iload_n hx hb dL_law_1175 rfl (lv_at hl 0 rfl) ?_
  refine lv_iconst (v := 1) hx hb dL_law_1176 (by decide) ?_
  refine lv_iadd hx hb dL_law_1177 ?_
  refine va_sld hx hb hX hbl hbA hS (sc_in (j := 1) (by decide) (by decide) hi hL) dL_law_1178 ?_
  rw [← ea_1]
  obtain ⟨fs_4, hd_4⟩ := ism_hd (ys := wx_2) hIM
  have hFc_4 := fr_l hD hS hA
  refine va_calli (va_runV (As := [.int a_1]) (rest := []) ⟨hx, hb, hml, hown, hts⟩ (w_X8_image l dC dI cI cZ cL cJ H.size mo _ _ _ _ _ _ _ _ _ _ _ _ _ _ wm a_1 hIM) (cwV 1 hts gL_law_X8_image rfl rfl rfl (by decide +kernel) ⟨Nat.le_of_ble_eq_true rfl, Nat.le_of_ble_eq_true rfl⟩) (pvL 8 hK hP hD hst hS hFc_4 rfl hd_4) rfl rfl hl.1 rfl (lv_room (Nat.le_of_ble_eq_true rfl)) dL_law_1179 ⟨Nat.le_of_ble_eq_true rfl, Nat.le_of_ble_eq_true rfl⟩) hS (fun q _ h => hFc_4 q h) hFc_4 (fun r_4 u_4 t_4 H1 locs ht hvm h_4 hB hz1 hk1 hS => ?_)
  obtain ⟨wm_4, hIM, hP1, hD1⟩ := hB
  rw [ht] at hP1
  obtain ⟨hP, hD⟩ := jn2 hP hD hk1 hFc_4 hP1 hD1
  generalize H1 = H at hP hS ⊢
  refine W.widen (k := 277) (n := 3929) (Nat.le_of_ble_eq_true rfl) (Nat.le_of_ble_eq_true rfl) ?_
  refine lv_pop hx hb dL_law_1182 rfl ?_
  refine lv_goto (tgt := 1357) hx hb dL_law_1183 (by decide) ?_
  exact lw_tail hC0 hi ⟨⟨_, _, _, _, _, _, _, _, _, _, _, _, _, _, ok_image hs, hIX, hIM⟩, hP, hD, hS, hl⟩ ih

set_option maxHeartbeats 4000000 in
set_option maxRecDepth 100000 in
theorem lw_c30 {p : Program} {l : Launch} {e : Env} {s : State} {m : MethodId} {below : List Frame} {meth : Method} {c : Code} {b L : Nat} {xs : Nat → Int32} {dC : Nat → ClassId} {dI : Nat → Nat → Nat} {cI cZ cL cJ : ClassId} {A : Nat → Prop} {H : Heap} {locs : List Loc} {ls : Array Slot} {x mo i : Nat} {wx wm : va_W} (hC : LCx p s m meth c b L xs dC dI cI cZ cL cJ A) (hi : 6 * i + 6 ≤ L) (hv : LIv dC dI cI cZ cL cJ A s b x mo i (wx, wm) H locs ls) (ih : ∀ (st2 : va_W × va_W) (H2 : Heap) (locs2 : List Loc) (ls2 : Array Slot), LIv dC dI cI cZ cL cJ A s b x mo (i + 1) st2 H2 locs2 ls2 → W p l e room_1 s m #[Value.ref b] below meth c H2 locs2 277 3929 (lw_Z below #[Value.ref b] s) (F0 m 18 ls2 [])) : W p l e room_1 s m #[Value.ref b] below meth c H locs 277 3929 (lw_Z below #[Value.ref b] s) (F0 m 1186 ls []) := by
  have hC0 := hC
  obtain ⟨hx, hb, hr, hml, hown, hts, hX, hbl, hlocks, hAd, hA, hbA, hK, hst, hL⟩ := hC
  obtain ⟨⟨Rl, Rn, zt, Tb, lf, Lv, An, Ac, I0, I1, Tz, Tc, sg, It, hs, hIX, hIM⟩, hP, hD, hS, hl⟩ := hv
  refine lv_aload_n hx hb dL_law_1186 rfl (lv_at hl 2 rfl) ?_
  refine lv_aload_n hx hb dL_law_1187 rfl (lv_at hl 3 rfl) ?_
  refine lv_iload_n hx hb dL_law_1188 rfl (lv_at hl 0 rfl) ?_
  refine lv_iconst (v := 1) hx hb dL_law_1189 (by decide) ?_
  refine lv_iadd hx hb dL_law_1190 ?_
  refine va_sld hx hb hX hbl hbA hS (sc_in (j := 1) (by decide) (by decide) hi hL) dL_law_1191 ?_
  refine lv_topi (fun a_1 ea_1 => ?_)
  obtain ⟨fs_2, hd_2⟩ := isx_hd (ys := wm) hIX
  have hFc_2 := fr_l hD hS hA
  refine va_calli (va_runV (As := [.int a_1]) (rest := []) ⟨hx, hb, hml, hown, hts⟩ (w_X7_restore l dC dI cI cZ cL cJ H.size x _ _ _ _ _ _ _ _ _ _ _ _ _ _ wx a_1 hs hIX) (cwV 1 hts gL_law_X7_restore rfl rfl rfl (by decide +kernel) ⟨Nat.le_of_ble_eq_true rfl, Nat.le_of_ble_eq_true rfl⟩) (pvL 7 hK hP hD hst hS hFc_2 rfl hd_2) rfl rfl hl.1 rfl (lv_room (Nat.le_of_ble_eq_true rfl)) dL_law_1192 ⟨Nat.le_of_ble_eq_true rfl, Nat.le_of_ble_eq_true rfl⟩) hS (fun q _ h => hFc_2 q h) hFc_2 (fun r_2 u_2 t_2 H1 locs ht hvm h_2 hB hz1 hk1 hS => ?_)
  obtain ⟨wx_2, hIX, hP1, hD1⟩ := hB
  rw [ht] at hP1
  obtain ⟨hP, hD⟩ := jn2 hP hD hk1 hFc_2 hP1 hD1
  generalize H1 = H at hP hS ⊢
  refine W.widen (k := 277) (n := 3929) (Nat.le_of_ble_eq_true rfl) (Nat.le_of_ble_eq_true rfl) ?_
  refine lv_pop hx hb dL_law_1195 rfl ?_
  refine lv_aload_n hx hb dL_law_1196 rfl (lv_at hl 1 rfl) ?_
  refine lv_aload_n hx hb dL_law_1197 rfl (lv_at hl 3 rfl) ?_
  refine lv_iload_n hx hb dL_law_1198 rfl (lv_at hl 0 rfl) ?_
  refine lv_iconst (v := 1) hx hb dL_law_1199 (by decide) ?_
  refine lv_iadd hx hb dL_law_1200 ?_
  refine va_sld hx hb hX hbl hbA hS (sc_in (j := 1) (by decide) (by decide) hi hL) dL_law_1201 ?_
  rw [← ea_1]
  obtain ⟨fs_4, hd_4⟩ := ism_hd (ys := wx_2) hIM
  have hFc_4 := fr_l hD hS hA
  refine va_calli (va_runV (As := [.int a_1]) (rest := []) ⟨hx, hb, hml, hown, hts⟩ (w_X8_restore l dC dI cI cZ cL cJ H.size mo _ _ _ _ _ _ _ _ _ _ _ _ _ _ wm a_1 hIM) (cwV 1 hts gL_law_X8_restore rfl rfl rfl (by decide +kernel) ⟨Nat.le_of_ble_eq_true rfl, Nat.le_of_ble_eq_true rfl⟩) (pvL 8 hK hP hD hst hS hFc_4 rfl hd_4) rfl rfl hl.1 rfl (lv_room (Nat.le_of_ble_eq_true rfl)) dL_law_1202 ⟨Nat.le_of_ble_eq_true rfl, Nat.le_of_ble_eq_true rfl⟩) hS (fun q _ h => hFc_4 q h) hFc_4 (fun r_4 u_4 t_4 H1 locs ht hvm h_4 hB hz1 hk1 hS => ?_)
  obtain ⟨wm_4, hIM, hP1, hD1⟩ := hB
  rw [ht] at hP1
  obtain ⟨hP, hD⟩ := jn2 hP hD hk1 hFc_4 hP1 hD1
  generalize H1 = H at hP hS ⊢
  refine W.widen (k := 277) (n := 3929) (Nat.le_of_ble_eq_true rfl) (Nat.le_of_ble_eq_true rfl) ?_
  refine lv_pop hx hb dL_law_1205 rfl ?_
  refine lv_goto (tgt := 1357) hx hb dL_law_1206 (by decide) ?_
  exact lw_tail hC0 hi ⟨⟨_, _, _, _, _, _, _, _, _, _, _, _, _, _, ok_rst hs, hIX, hIM⟩, hP, hD, hS, hl⟩ ih

set_option maxHeartbeats 4000000 in
set_option maxRecDepth 100000 in
theorem lw_c31 {p : Program} {l : Launch} {e : Env} {s : State} {m : MethodId} {below : List Frame} {meth : Method} {c : Code} {b L : Nat} {xs : Nat → Int32} {dC : Nat → ClassId} {dI : Nat → Nat → Nat} {cI cZ cL cJ : ClassId} {A : Nat → Prop} {H : Heap} {locs : List Loc} {ls : Array Slot} {x mo i : Nat} {wx wm : va_W} (hC : LCx p s m meth c b L xs dC dI cI cZ cL cJ A) (hi : 6 * i + 6 ≤ L) (hv : LIv dC dI cI cZ cL cJ A s b x mo i (wx, wm) H locs ls) (ih : ∀ (st2 : va_W × va_W) (H2 : Heap) (locs2 : List Loc) (ls2 : Array Slot), LIv dC dI cI cZ cL cJ A s b x mo (i + 1) st2 H2 locs2 ls2 → W p l e room_1 s m #[Value.ref b] below meth c H2 locs2 277 3929 (lw_Z below #[Value.ref b] s) (F0 m 18 ls2 [])) : W p l e room_1 s m #[Value.ref b] below meth c H locs 277 3929 (lw_Z below #[Value.ref b] s) (F0 m 1209 ls []) := by
  have hC0 := hC
  obtain ⟨hx, hb, hr, hml, hown, hts, hX, hbl, hlocks, hAd, hA, hbA, hK, hst, hL⟩ := hC
  obtain ⟨⟨Rl, Rn, zt, Tb, lf, Lv, An, Ac, I0, I1, Tz, Tc, sg, It, hs, hIX, hIM⟩, hP, hD, hS, hl⟩ := hv
  refine lv_aload_n hx hb dL_law_1209 rfl (lv_at hl 2 rfl) ?_
  refine lv_aload_n hx hb dL_law_1210 rfl (lv_at hl 3 rfl) ?_
  refine lv_iload_n hx hb dL_law_1211 rfl (lv_at hl 0 rfl) ?_
  refine lv_iconst (v := 1) hx hb dL_law_1212 (by decide) ?_
  refine lv_iadd hx hb dL_law_1213 ?_
  refine va_sld hx hb hX hbl hbA hS (sc_in (j := 1) (by decide) (by decide) hi hL) dL_law_1214 ?_
  refine lv_topi (fun a_1 ea_1 => ?_)
  obtain ⟨fs_2, hd_2⟩ := isx_hd (ys := wm) hIX
  have hFc_2 := fr_l hD hS hA
  refine va_calli (va_runV (As := [.int a_1]) (rest := []) ⟨hx, hb, hml, hown, hts⟩ (w_X7_kind l dC dI cI cZ cL cJ H.size x _ _ _ _ _ _ _ _ _ _ _ _ _ _ wx a_1 hs hIX) (cwV 1 hts gL_law_X7_kind rfl rfl rfl (by decide +kernel) ⟨Nat.le_of_ble_eq_true rfl, Nat.le_of_ble_eq_true rfl⟩) (pvL 7 hK hP hD hst hS hFc_2 rfl hd_2) rfl rfl hl.1 rfl (lv_room (Nat.le_of_ble_eq_true rfl)) dL_law_1215 ⟨Nat.le_of_ble_eq_true rfl, Nat.le_of_ble_eq_true rfl⟩) hS (fun q _ h => hFc_2 q h) hFc_2 (fun r_2 u_2 t_2 H1 locs ht hvm h_2 hB hz1 hk1 hS => ?_)
  obtain ⟨wx_2, hIX, hP1, hD1⟩ := hB
  rw [ht] at hP1
  obtain ⟨hP, hD⟩ := jn2 hP hD hk1 hFc_2 hP1 hD1
  generalize H1 = H at hP hS ⊢
  refine W.widen (k := 277) (n := 3929) (Nat.le_of_ble_eq_true rfl) (Nat.le_of_ble_eq_true rfl) ?_
  refine lv_pop hx hb dL_law_1218 rfl ?_
  refine lv_aload_n hx hb dL_law_1219 rfl (lv_at hl 1 rfl) ?_
  refine lv_aload_n hx hb dL_law_1220 rfl (lv_at hl 3 rfl) ?_
  refine lv_iload_n hx hb dL_law_1221 rfl (lv_at hl 0 rfl) ?_
  refine lv_iconst (v := 1) hx hb dL_law_1222 (by decide) ?_
  refine lv_iadd hx hb dL_law_1223 ?_
  refine va_sld hx hb hX hbl hbA hS (sc_in (j := 1) (by decide) (by decide) hi hL) dL_law_1224 ?_
  rw [← ea_1]
  obtain ⟨fs_4, hd_4⟩ := ism_hd (ys := wx_2) hIM
  have hFc_4 := fr_l hD hS hA
  refine va_calli (va_runV (As := [.int a_1]) (rest := []) ⟨hx, hb, hml, hown, hts⟩ (w_X8_kind l dC dI cI cZ cL cJ H.size mo _ _ _ _ _ _ _ _ _ _ _ _ _ _ wm a_1 hIM) (cwV 1 hts gL_law_X8_kind rfl rfl rfl (by decide +kernel) ⟨Nat.le_of_ble_eq_true rfl, Nat.le_of_ble_eq_true rfl⟩) (pvL 8 hK hP hD hst hS hFc_4 rfl hd_4) rfl rfl hl.1 rfl (lv_room (Nat.le_of_ble_eq_true rfl)) dL_law_1225 ⟨Nat.le_of_ble_eq_true rfl, Nat.le_of_ble_eq_true rfl⟩) hS (fun q _ h => hFc_4 q h) hFc_4 (fun r_4 u_4 t_4 H1 locs ht hvm h_4 hB hz1 hk1 hS => ?_)
  obtain ⟨wm_4, hIM, hP1, hD1⟩ := hB
  rw [ht] at hP1
  obtain ⟨hP, hD⟩ := jn2 hP hD hk1 hFc_4 hP1 hD1
  generalize H1 = H at hP hS ⊢
  refine W.widen (k := 277) (n := 3929) (Nat.le_of_ble_eq_true rfl) (Nat.le_of_ble_eq_true rfl) ?_
  refine lv_pop hx hb dL_law_1228 rfl ?_
  refine lv_goto (tgt := 1357) hx hb dL_law_1229 (by decide) ?_
  exact lw_tail hC0 hi ⟨⟨_, _, _, _, _, _, _, _, _, _, _, _, _, _, hs, hIX, hIM⟩, hP, hD, hS, hl⟩ ih

set_option maxHeartbeats 4000000 in
set_option maxRecDepth 100000 in
theorem lw_c32 {p : Program} {l : Launch} {e : Env} {s : State} {m : MethodId} {below : List Frame} {meth : Method} {c : Code} {b L : Nat} {xs : Nat → Int32} {dC : Nat → ClassId} {dI : Nat → Nat → Nat} {cI cZ cL cJ : ClassId} {A : Nat → Prop} {H : Heap} {locs : List Loc} {ls : Array Slot} {x mo i : Nat} {wx wm : va_W} (hC : LCx p s m meth c b L xs dC dI cI cZ cL cJ A) (hi : 6 * i + 6 ≤ L) (hv : LIv dC dI cI cZ cL cJ A s b x mo i (wx, wm) H locs ls) (ih : ∀ (st2 : va_W × va_W) (H2 : Heap) (locs2 : List Loc) (ls2 : Array Slot), LIv dC dI cI cZ cL cJ A s b x mo (i + 1) st2 H2 locs2 ls2 → W p l e room_1 s m #[Value.ref b] below meth c H2 locs2 277 3929 (lw_Z below #[Value.ref b] s) (F0 m 18 ls2 [])) : W p l e room_1 s m #[Value.ref b] below meth c H locs 277 3929 (lw_Z below #[Value.ref b] s) (F0 m 1232 ls []) := by
  have hC0 := hC
  obtain ⟨hx, hb, hr, hml, hown, hts, hX, hbl, hlocks, hAd, hA, hbA, hK, hst, hL⟩ := hC
  obtain ⟨⟨Rl, Rn, zt, Tb, lf, Lv, An, Ac, I0, I1, Tz, Tc, sg, It, hs, hIX, hIM⟩, hP, hD, hS, hl⟩ := hv
  refine lv_aload_n hx hb dL_law_1232 rfl (lv_at hl 2 rfl) ?_
  refine lv_aload_n hx hb dL_law_1233 rfl (lv_at hl 3 rfl) ?_
  refine lv_iload_n hx hb dL_law_1234 rfl (lv_at hl 0 rfl) ?_
  refine lv_iconst (v := 1) hx hb dL_law_1235 (by decide) ?_
  refine lv_iadd hx hb dL_law_1236 ?_
  refine va_sld hx hb hX hbl hbA hS (sc_in (j := 1) (by decide) (by decide) hi hL) dL_law_1237 ?_
  refine lv_topi (fun a_1 ea_1 => ?_)
  refine lv_aload_n hx hb dL_law_1238 rfl (lv_at hl 3 rfl) ?_
  refine lv_iload_n hx hb dL_law_1239 rfl (lv_at hl 0 rfl) ?_
  refine lv_iconst (v := 2) hx hb dL_law_1240 (by decide) ?_
  refine lv_iadd hx hb dL_law_1241 ?_
  refine va_sld hx hb hX hbl hbA hS (sc_in (j := 2) (by decide) (by decide) hi hL) dL_law_1242 ?_
  refine lv_topi (fun a_2 ea_2 => ?_)
  obtain ⟨fs_3, hd_3⟩ := isx_hd (ys := wm) hIX
  have hFc_3 := fr_l hD hS hA
  refine va_calli (va_runV (As := [.int a_1, .int a_2]) (rest := []) ⟨hx, hb, hml, hown, hts⟩ (w_X7_as l dC dI cI cZ cL cJ H.size x _ _ _ _ _ _ _ _ _ _ _ _ _ _ wx a_1 a_2 hs hIX) (cwV 2 hts gL_law_X7_as rfl rfl rfl (by decide +kernel) ⟨Nat.le_of_ble_eq_true rfl, Nat.le_of_ble_eq_true rfl⟩) (pvL 7 hK hP hD hst hS hFc_3 rfl hd_3) rfl rfl hl.1 rfl (lv_room (Nat.le_of_ble_eq_true rfl)) dL_law_1243 ⟨Nat.le_of_ble_eq_true rfl, Nat.le_of_ble_eq_true rfl⟩) hS (fun q _ h => hFc_3 q h) hFc_3 (fun r_3 u_3 t_3 H1 locs ht hvm h_3 hB hz1 hk1 hS => ?_)
  obtain ⟨wx_3, hIX, hP1, hD1⟩ := hB
  rw [ht] at hP1
  obtain ⟨hP, hD⟩ := jn2 hP hD hk1 hFc_3 hP1 hD1
  generalize H1 = H at hP hS ⊢
  refine W.widen (k := 277) (n := 3929) (Nat.le_of_ble_eq_true rfl) (Nat.le_of_ble_eq_true rfl) ?_
  refine lv_pop hx hb dL_law_1246 rfl ?_
  refine lv_aload_n hx hb dL_law_1247 rfl (lv_at hl 1 rfl) ?_
  refine lv_aload_n hx hb dL_law_1248 rfl (lv_at hl 3 rfl) ?_
  refine lv_iload_n hx hb dL_law_1249 rfl (lv_at hl 0 rfl) ?_
  refine lv_iconst (v := 1) hx hb dL_law_1250 (by decide) ?_
  refine lv_iadd hx hb dL_law_1251 ?_
  refine va_sld hx hb hX hbl hbA hS (sc_in (j := 1) (by decide) (by decide) hi hL) dL_law_1252 ?_
  rw [← ea_1]
  refine lv_aload_n hx hb dL_law_1253 rfl (lv_at hl 3 rfl) ?_
  refine lv_iload_n hx hb dL_law_1254 rfl (lv_at hl 0 rfl) ?_
  refine lv_iconst (v := 2) hx hb dL_law_1255 (by decide) ?_
  refine lv_iadd hx hb dL_law_1256 ?_
  refine va_sld hx hb hX hbl hbA hS (sc_in (j := 2) (by decide) (by decide) hi hL) dL_law_1257 ?_
  rw [← ea_2]
  obtain ⟨fs_6, hd_6⟩ := ism_hd (ys := wx_3) hIM
  have hFc_6 := fr_l hD hS hA
  refine va_calli (va_runV (As := [.int a_1, .int a_2]) (rest := []) ⟨hx, hb, hml, hown, hts⟩ (w_X8_as l dC dI cI cZ cL cJ H.size mo _ _ _ _ _ _ _ _ _ _ _ _ _ _ wm a_1 a_2 hIM) (cwV 2 hts gL_law_X8_as rfl rfl rfl (by decide +kernel) ⟨Nat.le_of_ble_eq_true rfl, Nat.le_of_ble_eq_true rfl⟩) (pvL 8 hK hP hD hst hS hFc_6 rfl hd_6) rfl rfl hl.1 rfl (lv_room (Nat.le_of_ble_eq_true rfl)) dL_law_1258 ⟨Nat.le_of_ble_eq_true rfl, Nat.le_of_ble_eq_true rfl⟩) hS (fun q _ h => hFc_6 q h) hFc_6 (fun r_6 u_6 t_6 H1 locs ht hvm h_6 hB hz1 hk1 hS => ?_)
  obtain ⟨wm_6, hIM, hP1, hD1⟩ := hB
  rw [ht] at hP1
  obtain ⟨hP, hD⟩ := jn2 hP hD hk1 hFc_6 hP1 hD1
  generalize H1 = H at hP hS ⊢
  refine W.widen (k := 277) (n := 3929) (Nat.le_of_ble_eq_true rfl) (Nat.le_of_ble_eq_true rfl) ?_
  refine lv_pop hx hb dL_law_1261 rfl ?_
  refine lv_goto (tgt := 1357) hx hb dL_law_1262 (by decide) ?_
  exact lw_tail hC0 hi ⟨⟨_, _, _, _, _, _, _, _, _, _, _, _, _, _, hs, hIX, hIM⟩, hP, hD, hS, hl⟩ ih

set_option maxHeartbeats 4000000 in
set_option maxRecDepth 100000 in
theorem lw_c33 {p : Program} {l : Launch} {e : Env} {s : State} {m : MethodId} {below : List Frame} {meth : Method} {c : Code} {b L : Nat} {xs : Nat → Int32} {dC : Nat → ClassId} {dI : Nat → Nat → Nat} {cI cZ cL cJ : ClassId} {A : Nat → Prop} {H : Heap} {locs : List Loc} {ls : Array Slot} {x mo i : Nat} {wx wm : va_W} (hC : LCx p s m meth c b L xs dC dI cI cZ cL cJ A) (hi : 6 * i + 6 ≤ L) (hv : LIv dC dI cI cZ cL cJ A s b x mo i (wx, wm) H locs ls) (ih : ∀ (st2 : va_W × va_W) (H2 : Heap) (locs2 : List Loc) (ls2 : Array Slot), LIv dC dI cI cZ cL cJ A s b x mo (i + 1) st2 H2 locs2 ls2 → W p l e room_1 s m #[Value.ref b] below meth c H2 locs2 277 3929 (lw_Z below #[Value.ref b] s) (F0 m 18 ls2 [])) : W p l e room_1 s m #[Value.ref b] below meth c H locs 277 3929 (lw_Z below #[Value.ref b] s) (F0 m 1265 ls []) := by
  have hC0 := hC
  obtain ⟨hx, hb, hr, hml, hown, hts, hX, hbl, hlocks, hAd, hA, hbA, hK, hst, hL⟩ := hC
  obtain ⟨⟨Rl, Rn, zt, Tb, lf, Lv, An, Ac, I0, I1, Tz, Tc, sg, It, hs, hIX, hIM⟩, hP, hD, hS, hl⟩ := hv
  refine lv_aload_n hx hb dL_law_1265 rfl (lv_at hl 2 rfl) ?_
  refine lv_aload_n hx hb dL_law_1266 rfl (lv_at hl 3 rfl) ?_
  refine lv_iload_n hx hb dL_law_1267 rfl (lv_at hl 0 rfl) ?_
  refine lv_iconst (v := 1) hx hb dL_law_1268 (by decide) ?_
  refine lv_iadd hx hb dL_law_1269 ?_
  refine va_sld hx hb hX hbl hbA hS (sc_in (j := 1) (by decide) (by decide) hi hL) dL_law_1270 ?_
  refine lv_topi (fun a_1 ea_1 => ?_)
  refine lv_aload_n hx hb dL_law_1271 rfl (lv_at hl 3 rfl) ?_
  refine lv_iload_n hx hb dL_law_1272 rfl (lv_at hl 0 rfl) ?_
  refine lv_iconst (v := 2) hx hb dL_law_1273 (by decide) ?_
  refine lv_iadd hx hb dL_law_1274 ?_
  refine va_sld hx hb hX hbl hbA hS (sc_in (j := 2) (by decide) (by decide) hi hL) dL_law_1275 ?_
  refine lv_topi (fun a_2 ea_2 => ?_)
  obtain ⟨fs_3, hd_3⟩ := isx_hd (ys := wm) hIX
  have hFc_3 := fr_l hD hS hA
  refine va_calli (va_runV (As := [.int a_1, .int a_2]) (rest := []) ⟨hx, hb, hml, hown, hts⟩ (w_X7_ask l dC dI cI cZ cL cJ H.size x _ _ _ _ _ _ _ _ _ _ _ _ _ _ wx a_1 a_2 hs hIX) (cwV 2 hts gL_law_X7_ask rfl rfl rfl (by decide +kernel) ⟨Nat.le_of_ble_eq_true rfl, Nat.le_of_ble_eq_true rfl⟩) (pvL 7 hK hP hD hst hS hFc_3 rfl hd_3) rfl rfl hl.1 rfl (lv_room (Nat.le_of_ble_eq_true rfl)) dL_law_1276 ⟨Nat.le_of_ble_eq_true rfl, Nat.le_of_ble_eq_true rfl⟩) hS (fun q _ h => hFc_3 q h) hFc_3 (fun r_3 u_3 t_3 H1 locs ht hvm h_3 hB hz1 hk1 hS => ?_)
  obtain ⟨wx_3, hIX, hP1, hD1⟩ := hB
  rw [ht] at hP1
  obtain ⟨hP, hD⟩ := jn2 hP hD hk1 hFc_3 hP1 hD1
  generalize H1 = H at hP hS ⊢
  refine W.widen (k := 277) (n := 3929) (Nat.le_of_ble_eq_true rfl) (Nat.le_of_ble_eq_true rfl) ?_
  refine lv_pop hx hb dL_law_1279 rfl ?_
  refine lv_aload_n hx hb dL_law_1280 rfl (lv_at hl 1 rfl) ?_
  refine lv_aload_n hx hb dL_law_1281 rfl (lv_at hl 3 rfl) ?_
  refine lv_iload_n hx hb dL_law_1282 rfl (lv_at hl 0 rfl) ?_
  refine lv_iconst (v := 1) hx hb dL_law_1283 (by decide) ?_
  refine lv_iadd hx hb dL_law_1284 ?_
  refine va_sld hx hb hX hbl hbA hS (sc_in (j := 1) (by decide) (by decide) hi hL) dL_law_1285 ?_
  rw [← ea_1]
  refine lv_aload_n hx hb dL_law_1286 rfl (lv_at hl 3 rfl) ?_
  refine lv_iload_n hx hb dL_law_1287 rfl (lv_at hl 0 rfl) ?_
  refine lv_iconst (v := 2) hx hb dL_law_1288 (by decide) ?_
  refine lv_iadd hx hb dL_law_1289 ?_
  refine va_sld hx hb hX hbl hbA hS (sc_in (j := 2) (by decide) (by decide) hi hL) dL_law_1290 ?_
  rw [← ea_2]
  obtain ⟨fs_6, hd_6⟩ := ism_hd (ys := wx_3) hIM
  have hFc_6 := fr_l hD hS hA
  refine va_calli (va_runV (As := [.int a_1, .int a_2]) (rest := []) ⟨hx, hb, hml, hown, hts⟩ (w_X8_ask l dC dI cI cZ cL cJ H.size mo _ _ _ _ _ _ _ _ _ _ _ _ _ _ wm a_1 a_2 hIM) (cwV 2 hts gL_law_X8_ask rfl rfl rfl (by decide +kernel) ⟨Nat.le_of_ble_eq_true rfl, Nat.le_of_ble_eq_true rfl⟩) (pvL 8 hK hP hD hst hS hFc_6 rfl hd_6) rfl rfl hl.1 rfl (lv_room (Nat.le_of_ble_eq_true rfl)) dL_law_1291 ⟨Nat.le_of_ble_eq_true rfl, Nat.le_of_ble_eq_true rfl⟩) hS (fun q _ h => hFc_6 q h) hFc_6 (fun r_6 u_6 t_6 H1 locs ht hvm h_6 hB hz1 hk1 hS => ?_)
  obtain ⟨wm_6, hIM, hP1, hD1⟩ := hB
  rw [ht] at hP1
  obtain ⟨hP, hD⟩ := jn2 hP hD hk1 hFc_6 hP1 hD1
  generalize H1 = H at hP hS ⊢
  refine W.widen (k := 277) (n := 3929) (Nat.le_of_ble_eq_true rfl) (Nat.le_of_ble_eq_true rfl) ?_
  refine lv_pop hx hb dL_law_1294 rfl ?_
  refine lv_goto (tgt := 1357) hx hb dL_law_1295 (by decide) ?_
  exact lw_tail hC0 hi ⟨⟨_, _, _, _, _, _, _, _, _, _, _, _, _, _, hs, hIX, hIM⟩, hP, hD, hS, hl⟩ ih

set_option maxHeartbeats 4000000 in
set_option maxRecDepth 100000 in
theorem lw_c34 {p : Program} {l : Launch} {e : Env} {s : State} {m : MethodId} {below : List Frame} {meth : Method} {c : Code} {b L : Nat} {xs : Nat → Int32} {dC : Nat → ClassId} {dI : Nat → Nat → Nat} {cI cZ cL cJ : ClassId} {A : Nat → Prop} {H : Heap} {locs : List Loc} {ls : Array Slot} {x mo i : Nat} {wx wm : va_W} (hC : LCx p s m meth c b L xs dC dI cI cZ cL cJ A) (hi : 6 * i + 6 ≤ L) (hv : LIv dC dI cI cZ cL cJ A s b x mo i (wx, wm) H locs ls) (ih : ∀ (st2 : va_W × va_W) (H2 : Heap) (locs2 : List Loc) (ls2 : Array Slot), LIv dC dI cI cZ cL cJ A s b x mo (i + 1) st2 H2 locs2 ls2 → W p l e room_1 s m #[Value.ref b] below meth c H2 locs2 277 3929 (lw_Z below #[Value.ref b] s) (F0 m 18 ls2 [])) : W p l e room_1 s m #[Value.ref b] below meth c H locs 277 3929 (lw_Z below #[Value.ref b] s) (F0 m 1298 ls []) := by
  have hC0 := hC
  obtain ⟨hx, hb, hr, hml, hown, hts, hX, hbl, hlocks, hAd, hA, hbA, hK, hst, hL⟩ := hC
  obtain ⟨⟨Rl, Rn, zt, Tb, lf, Lv, An, Ac, I0, I1, Tz, Tc, sg, It, hs, hIX, hIM⟩, hP, hD, hS, hl⟩ := hv
  refine lv_aload_n hx hb dL_law_1298 rfl (lv_at hl 2 rfl) ?_
  refine lv_aload_n hx hb dL_law_1299 rfl (lv_at hl 3 rfl) ?_
  refine lv_iload_n hx hb dL_law_1300 rfl (lv_at hl 0 rfl) ?_
  refine lv_iconst (v := 1) hx hb dL_law_1301 (by decide) ?_
  refine lv_iadd hx hb dL_law_1302 ?_
  refine va_sld hx hb hX hbl hbA hS (sc_in (j := 1) (by decide) (by decide) hi hL) dL_law_1303 ?_
  refine lv_topi (fun a_1 ea_1 => ?_)
  obtain ⟨fs_2, hd_2⟩ := isx_hd (ys := wm) hIX
  have hFc_2 := fr_l hD hS hA
  refine va_calli (va_runV (As := [.int a_1]) (rest := []) ⟨hx, hb, hml, hown, hts⟩ (w_X7_trace l dC dI cI cZ cL cJ H.size x _ _ _ _ _ _ _ _ _ _ _ _ _ _ wx a_1 hs hIX) (cwV 1 hts gL_law_X7_trace rfl rfl rfl (by decide +kernel) ⟨Nat.le_of_ble_eq_true rfl, Nat.le_of_ble_eq_true rfl⟩) (pvL 7 hK hP hD hst hS hFc_2 rfl hd_2) rfl rfl hl.1 rfl (lv_room (Nat.le_of_ble_eq_true rfl)) dL_law_1304 ⟨Nat.le_of_ble_eq_true rfl, Nat.le_of_ble_eq_true rfl⟩) hS (fun q _ h => hFc_2 q h) hFc_2 (fun r_2 u_2 t_2 H1 locs ht hvm h_2 hB hz1 hk1 hS => ?_)
  obtain ⟨wx_2, hIX, hP1, hD1⟩ := hB
  rw [ht] at hP1
  obtain ⟨hP, hD⟩ := jn2 hP hD hk1 hFc_2 hP1 hD1
  generalize H1 = H at hP hS ⊢
  refine W.widen (k := 277) (n := 3929) (Nat.le_of_ble_eq_true rfl) (Nat.le_of_ble_eq_true rfl) ?_
  refine lv_pop hx hb dL_law_1307 rfl ?_
  refine lv_aload_n hx hb dL_law_1308 rfl (lv_at hl 1 rfl) ?_
  refine lv_aload_n hx hb dL_law_1309 rfl (lv_at hl 3 rfl) ?_
  refine lv_iload_n hx hb dL_law_1310 rfl (lv_at hl 0 rfl) ?_
  refine lv_iconst (v := 1) hx hb dL_law_1311 (by decide) ?_
  refine lv_iadd hx hb dL_law_1312 ?_
  refine va_sld hx hb hX hbl hbA hS (sc_in (j := 1) (by decide) (by decide) hi hL) dL_law_1313 ?_
  rw [← ea_1]
  obtain ⟨fs_4, hd_4⟩ := ism_hd (ys := wx_2) hIM
  have hFc_4 := fr_l hD hS hA
  refine va_calli (va_runV (As := [.int a_1]) (rest := []) ⟨hx, hb, hml, hown, hts⟩ (w_X8_trace l dC dI cI cZ cL cJ H.size mo _ _ _ _ _ _ _ _ _ _ _ _ _ _ wm a_1 hIM) (cwV 1 hts gL_law_X8_trace rfl rfl rfl (by decide +kernel) ⟨Nat.le_of_ble_eq_true rfl, Nat.le_of_ble_eq_true rfl⟩) (pvL 8 hK hP hD hst hS hFc_4 rfl hd_4) rfl rfl hl.1 rfl (lv_room (Nat.le_of_ble_eq_true rfl)) dL_law_1314 ⟨Nat.le_of_ble_eq_true rfl, Nat.le_of_ble_eq_true rfl⟩) hS (fun q _ h => hFc_4 q h) hFc_4 (fun r_4 u_4 t_4 H1 locs ht hvm h_4 hB hz1 hk1 hS => ?_)
  obtain ⟨wm_4, hIM, hP1, hD1⟩ := hB
  rw [ht] at hP1
  obtain ⟨hP, hD⟩ := jn2 hP hD hk1 hFc_4 hP1 hD1
  generalize H1 = H at hP hS ⊢
  refine W.widen (k := 277) (n := 3929) (Nat.le_of_ble_eq_true rfl) (Nat.le_of_ble_eq_true rfl) ?_
  refine lv_pop hx hb dL_law_1317 rfl ?_
  refine lv_goto (tgt := 1357) hx hb dL_law_1318 (by decide) ?_
  exact lw_tail hC0 hi ⟨⟨_, _, _, _, _, _, _, _, _, _, _, _, _, _, hs, hIX, hIM⟩, hP, hD, hS, hl⟩ ih

set_option maxHeartbeats 4000000 in
set_option maxRecDepth 100000 in
theorem lw_c35 {p : Program} {l : Launch} {e : Env} {s : State} {m : MethodId} {below : List Frame} {meth : Method} {c : Code} {b L : Nat} {xs : Nat → Int32} {dC : Nat → ClassId} {dI : Nat → Nat → Nat} {cI cZ cL cJ : ClassId} {A : Nat → Prop} {H : Heap} {locs : List Loc} {ls : Array Slot} {x mo i : Nat} {wx wm : va_W} (hC : LCx p s m meth c b L xs dC dI cI cZ cL cJ A) (hi : 6 * i + 6 ≤ L) (hv : LIv dC dI cI cZ cL cJ A s b x mo i (wx, wm) H locs ls) (ih : ∀ (st2 : va_W × va_W) (H2 : Heap) (locs2 : List Loc) (ls2 : Array Slot), LIv dC dI cI cZ cL cJ A s b x mo (i + 1) st2 H2 locs2 ls2 → W p l e room_1 s m #[Value.ref b] below meth c H2 locs2 277 3929 (lw_Z below #[Value.ref b] s) (F0 m 18 ls2 [])) : W p l e room_1 s m #[Value.ref b] below meth c H locs 277 3929 (lw_Z below #[Value.ref b] s) (F0 m 1321 ls []) := by
  have hC0 := hC
  obtain ⟨hx, hb, hr, hml, hown, hts, hX, hbl, hlocks, hAd, hA, hbA, hK, hst, hL⟩ := hC
  obtain ⟨⟨Rl, Rn, zt, Tb, lf, Lv, An, Ac, I0, I1, Tz, Tc, sg, It, hs, hIX, hIM⟩, hP, hD, hS, hl⟩ := hv
  refine lv_aload_n hx hb dL_law_1321 rfl (lv_at hl 2 rfl) ?_
  refine lv_aload_n hx hb dL_law_1322 rfl (lv_at hl 3 rfl) ?_
  refine lv_iload_n hx hb dL_law_1323 rfl (lv_at hl 0 rfl) ?_
  refine lv_iconst (v := 1) hx hb dL_law_1324 (by decide) ?_
  refine lv_iadd hx hb dL_law_1325 ?_
  refine va_sld hx hb hX hbl hbA hS (sc_in (j := 1) (by decide) (by decide) hi hL) dL_law_1326 ?_
  refine lv_topi (fun a_1 ea_1 => ?_)
  obtain ⟨fs_2, hd_2⟩ := isx_hd (ys := wm) hIX
  have hFc_2 := fr_l hD hS hA
  refine va_calli (va_runV (As := [.int a_1]) (rest := []) ⟨hx, hb, hml, hown, hts⟩ (w_X7_count l dC dI cI cZ cL cJ H.size x _ _ _ _ _ _ _ _ _ _ _ _ _ _ wx a_1 hs hIX) (cwV 1 hts gL_law_X7_count rfl rfl rfl (by decide +kernel) ⟨Nat.le_of_ble_eq_true rfl, Nat.le_of_ble_eq_true rfl⟩) (pvL 7 hK hP hD hst hS hFc_2 rfl hd_2) rfl rfl hl.1 rfl (lv_room (Nat.le_of_ble_eq_true rfl)) dL_law_1327 ⟨Nat.le_of_ble_eq_true rfl, Nat.le_of_ble_eq_true rfl⟩) hS (fun q _ h => hFc_2 q h) hFc_2 (fun r_2 u_2 t_2 H1 locs ht hvm h_2 hB hz1 hk1 hS => ?_)
  obtain ⟨wx_2, hIX, hP1, hD1⟩ := hB
  rw [ht] at hP1
  obtain ⟨hP, hD⟩ := jn2 hP hD hk1 hFc_2 hP1 hD1
  generalize H1 = H at hP hS ⊢
  refine W.widen (k := 277) (n := 3929) (Nat.le_of_ble_eq_true rfl) (Nat.le_of_ble_eq_true rfl) ?_
  refine lv_pop hx hb dL_law_1330 rfl ?_
  refine lv_aload_n hx hb dL_law_1331 rfl (lv_at hl 1 rfl) ?_
  refine lv_aload_n hx hb dL_law_1332 rfl (lv_at hl 3 rfl) ?_
  refine lv_iload_n hx hb dL_law_1333 rfl (lv_at hl 0 rfl) ?_
  refine lv_iconst (v := 1) hx hb dL_law_1334 (by decide) ?_
  refine lv_iadd hx hb dL_law_1335 ?_
  refine va_sld hx hb hX hbl hbA hS (sc_in (j := 1) (by decide) (by decide) hi hL) dL_law_1336 ?_
  rw [← ea_1]
  obtain ⟨fs_4, hd_4⟩ := ism_hd (ys := wx_2) hIM
  have hFc_4 := fr_l hD hS hA
  refine va_calli (va_runV (As := [.int a_1]) (rest := []) ⟨hx, hb, hml, hown, hts⟩ (w_X8_count l dC dI cI cZ cL cJ H.size mo _ _ _ _ _ _ _ _ _ _ _ _ _ _ wm a_1 hIM) (cwV 1 hts gL_law_X8_count rfl rfl rfl (by decide +kernel) ⟨Nat.le_of_ble_eq_true rfl, Nat.le_of_ble_eq_true rfl⟩) (pvL 8 hK hP hD hst hS hFc_4 rfl hd_4) rfl rfl hl.1 rfl (lv_room (Nat.le_of_ble_eq_true rfl)) dL_law_1337 ⟨Nat.le_of_ble_eq_true rfl, Nat.le_of_ble_eq_true rfl⟩) hS (fun q _ h => hFc_4 q h) hFc_4 (fun r_4 u_4 t_4 H1 locs ht hvm h_4 hB hz1 hk1 hS => ?_)
  obtain ⟨wm_4, hIM, hP1, hD1⟩ := hB
  rw [ht] at hP1
  obtain ⟨hP, hD⟩ := jn2 hP hD hk1 hFc_4 hP1 hD1
  generalize H1 = H at hP hS ⊢
  refine W.widen (k := 277) (n := 3929) (Nat.le_of_ble_eq_true rfl) (Nat.le_of_ble_eq_true rfl) ?_
  refine lv_pop hx hb dL_law_1340 rfl ?_
  refine lv_goto (tgt := 1357) hx hb dL_law_1341 (by decide) ?_
  exact lw_tail hC0 hi ⟨⟨_, _, _, _, _, _, _, _, _, _, _, _, _, _, hs, hIX, hIM⟩, hP, hD, hS, hl⟩ ih

set_option maxHeartbeats 4000000 in
set_option maxRecDepth 100000 in
theorem lw_c36 {p : Program} {l : Launch} {e : Env} {s : State} {m : MethodId} {below : List Frame} {meth : Method} {c : Code} {b L : Nat} {xs : Nat → Int32} {dC : Nat → ClassId} {dI : Nat → Nat → Nat} {cI cZ cL cJ : ClassId} {A : Nat → Prop} {H : Heap} {locs : List Loc} {ls : Array Slot} {x mo i : Nat} {wx wm : va_W} (hC : LCx p s m meth c b L xs dC dI cI cZ cL cJ A) (hi : 6 * i + 6 ≤ L) (hv : LIv dC dI cI cZ cL cJ A s b x mo i (wx, wm) H locs ls) (ih : ∀ (st2 : va_W × va_W) (H2 : Heap) (locs2 : List Loc) (ls2 : Array Slot), LIv dC dI cI cZ cL cJ A s b x mo (i + 1) st2 H2 locs2 ls2 → W p l e room_1 s m #[Value.ref b] below meth c H2 locs2 277 3929 (lw_Z below #[Value.ref b] s) (F0 m 18 ls2 [])) : W p l e room_1 s m #[Value.ref b] below meth c H locs 277 3929 (lw_Z below #[Value.ref b] s) (F0 m 1344 ls []) := by
  have hC0 := hC
  obtain ⟨hx, hb, hr, hml, hown, hts, hX, hbl, hlocks, hAd, hA, hbA, hK, hst, hL⟩ := hC
  obtain ⟨⟨Rl, Rn, zt, Tb, lf, Lv, An, Ac, I0, I1, Tz, Tc, sg, It, hs, hIX, hIM⟩, hP, hD, hS, hl⟩ := hv
  refine lv_aload_n hx hb dL_law_1344 rfl (lv_at hl 2 rfl) ?_
  obtain ⟨fs_1, hd_1⟩ := isx_hd (ys := wm) hIX
  have hFc_1 := fr_l hD hS hA
  refine va_calli (va_runV (As := []) (rest := []) ⟨hx, hb, hml, hown, hts⟩ (w_X7_status l dC dI cI cZ cL cJ H.size x _ _ _ _ _ _ _ _ _ _ _ _ _ _ wx  hs hIX) (cwV 0 hts gL_law_X7_status rfl rfl rfl (by decide +kernel) ⟨Nat.le_of_ble_eq_true rfl, Nat.le_of_ble_eq_true rfl⟩) (pvL 7 hK hP hD hst hS hFc_1 rfl hd_1) rfl rfl hl.1 rfl (lv_room (Nat.le_of_ble_eq_true rfl)) dL_law_1345 ⟨Nat.le_of_ble_eq_true rfl, Nat.le_of_ble_eq_true rfl⟩) hS (fun q _ h => hFc_1 q h) hFc_1 (fun r_1 u_1 t_1 H1 locs ht hvm h_1 hB hz1 hk1 hS => ?_)
  obtain ⟨wx_1, hIX, hP1, hD1⟩ := hB
  rw [ht] at hP1
  obtain ⟨hP, hD⟩ := jn2 hP hD hk1 hFc_1 hP1 hD1
  generalize H1 = H at hP hS ⊢
  refine W.widen (k := 277) (n := 3929) (Nat.le_of_ble_eq_true rfl) (Nat.le_of_ble_eq_true rfl) ?_
  refine lv_aload_n hx hb dL_law_1348 rfl (lv_at hl 1 rfl) ?_
  obtain ⟨fs_2, hd_2⟩ := ism_hd (ys := wx_1) hIM
  have hFc_2 := fr_l hD hS hA
  refine va_calli (va_runV (As := []) (rest := [.int r_1]) ⟨hx, hb, hml, hown, hts⟩ (w_X8_status l dC dI cI cZ cL cJ H.size mo _ _ _ _ _ _ _ _ _ _ _ _ _ _ wm  hIM) (cwV 0 hts gL_law_X8_status rfl rfl rfl (by decide +kernel) ⟨Nat.le_of_ble_eq_true rfl, Nat.le_of_ble_eq_true rfl⟩) (pvL 8 hK hP hD hst hS hFc_2 rfl hd_2) rfl rfl hl.1 rfl (lv_room (Nat.le_of_ble_eq_true rfl)) dL_law_1349 ⟨Nat.le_of_ble_eq_true rfl, Nat.le_of_ble_eq_true rfl⟩) hS (fun q _ h => hFc_2 q h) hFc_2 (fun r_2 u_2 t_2 H1 locs ht hvm h_2 hB hz1 hk1 hS => ?_)
  obtain ⟨wm_2, hIM, hP1, hD1⟩ := hB
  rw [ht] at hP1
  obtain ⟨hP, hD⟩ := jn2 hP hD hk1 hFc_2 hP1 hD1
  generalize H1 = H at hP hS ⊢
  refine W.widen (k := 277) (n := 3929) (Nat.le_of_ble_eq_true rfl) (Nat.le_of_ble_eq_true rfl) ?_
  refine lv_icmp_eq (tgt := 1357) hx hb dL_law_1352 (by decide) (fun _ => ?_) (fun c_ => absurd (h_1.trans h_2.symm) c_)
  exact lw_tail hC0 hi ⟨⟨_, _, _, _, _, _, _, _, _, _, _, _, _, _, hs, hIX, hIM⟩, hP, hD, hS, hl⟩ ih

-- 83.whole
theorem st1_of {args : Array Value} {s : State} {C n : String} {A : Nat → Prop} {f : Nat → Int32} (hl : (Cond.laysStatic C n "[I").before args s = true) (hini : (Cond.initialized C).before args s = true) (harr : (Cond.arrayOf (.static C n "[I") .int).before args s = true) (hlen : (Cond.eq (.length (.static C n "[I")) (.int 6)).before args s = true) (hel : ∀ j : Nat, j < 6 → (Cond.eq (.elem (.static C n "[I") (.int (Int32.ofNat j))) (.int (f j))).before args s = true) (hA : ∀ a : Nat, a < s.heap.size → ¬ A a) : st1 C n f A s s.heap := by
  obtain ⟨t, h1, h2⟩ := va_Tof (N := 6) (f := fun j => .int (f j)) (by decide) harr (va_eqt hlen) (fun j hj => va_eqt (hel j hj)) hA
  exact ⟨t, va_Zref hl hini h1 hA, h2⟩
set_option maxHeartbeats 4000000 in
set_option maxRecDepth 100000 in
theorem stt_start {args : Array Value} {s : State} {A : Nat → Prop} (hgv : (Jvm.Cond.and given_1 narrow_1).before args s = true) (hts0 : ∀ w ∈ lw_tbl, w.before args s = true) (hA : ∀ a : Nat, a < s.heap.size → ¬ A a) : stt A s s.heap := by
  have hs := flat_of_before _ hgv
  have h_NEXT_KIND : st1 "MillTalk" "NEXT_KIND" nkF A s s.heap := by
    refine st1_of (f := (fun j => [(-1 : Int32), (0 : Int32), (1 : Int32), (1 : Int32), (0 : Int32), (4 : Int32)].getD j 0)) (hts0 _ (by decide +kernel)) (hts0 _ (by decide +kernel)) (hs _ (by decide +kernel)) (hs _ (by decide +kernel)) (fun j hj => ?_) hA
    rcases (show j = 0 ∨ j = 1 ∨ j = 2 ∨ j = 3 ∨ j = 4 ∨ j = 5 by omega) with rfl | rfl | rfl | rfl | rfl | rfl
    · exact hs _ (by decide +kernel)
    · exact hs _ (by decide +kernel)
    · exact hs _ (by decide +kernel)
    · exact hs _ (by decide +kernel)
    · exact hs _ (by decide +kernel)
    · exact hs _ (by decide +kernel)
  have h_SIZE_BODIES : st1 "MillTalk$Asks" "SIZE_BODIES" sbF A s s.heap := by
    refine st1_of (f := (fun j => [(10 : Int32), (11 : Int32), (12 : Int32), (0 : Int32), (13 : Int32), (14 : Int32)].getD j 0)) (hts0 _ (by decide +kernel)) (hts0 _ (by decide +kernel)) (hs _ (by decide +kernel)) (hs _ (by decide +kernel)) (fun j hj => ?_) hA
    rcases (show j = 0 ∨ j = 1 ∨ j = 2 ∨ j = 3 ∨ j = 4 ∨ j = 5 by omega) with rfl | rfl | rfl | rfl | rfl | rfl
    · exact hs _ (by decide +kernel)
    · exact hs _ (by decide +kernel)
    · exact hs _ (by decide +kernel)
    · exact hs _ (by decide +kernel)
    · exact hs _ (by decide +kernel)
    · exact hs _ (by decide +kernel)
  have h_MARK_BODIES : st1 "MillTalk$Asks" "MARK_BODIES" mbF A s s.heap := by
    refine st1_of (f := (fun j => [(20 : Int32), (21 : Int32), (24 : Int32), (22 : Int32), (23 : Int32), (0 : Int32)].getD j 0)) (hts0 _ (by decide +kernel)) (hts0 _ (by decide +kernel)) (hs _ (by decide +kernel)) (hs _ (by decide +kernel)) (fun j hj => ?_) hA
    rcases (show j = 0 ∨ j = 1 ∨ j = 2 ∨ j = 3 ∨ j = 4 ∨ j = 5 by omega) with rfl | rfl | rfl | rfl | rfl | rfl
    · exact hs _ (by decide +kernel)
    · exact hs _ (by decide +kernel)
    · exact hs _ (by decide +kernel)
    · exact hs _ (by decide +kernel)
    · exact hs _ (by decide +kernel)
    · exact hs _ (by decide +kernel)
  exact ⟨h_NEXT_KIND, h_SIZE_BODIES, h_MARK_BODIES, va_Nw.of rfl (hts0 (.fieldLinkNest RX1 53 "MillTalk" "NEXT_KIND" "[I" "MillTalk") (by decide +kernel))⟩

set_option maxHeartbeats 8000000 in
set_option maxRecDepth 100000 in
theorem lw_step {p : Program} {l : Launch} {e : Env} {s : State} {m : MethodId} {below : List Frame} {meth : Method} {c : Code} {b L : Nat} {xs : Nat → Int32} {dC : Nat → ClassId} {dI : Nat → Nat → Nat} {cI cZ cL cJ : ClassId} {A : Nat → Prop} {H : Heap} {locs : List Loc} {ls : Array Slot} {x mo i : Nat} {wx wm : va_W} (hC : LCx p s m meth c b L xs dC dI cI cZ cL cJ A) (hi : 6 * i + 6 ≤ L) (hv : LIv dC dI cI cZ cL cJ A s b x mo i (wx, wm) H locs ls) (ih : ∀ (st2 : va_W × va_W) (H2 : Heap) (locs2 : List Loc) (ls2 : Array Slot), LIv dC dI cI cZ cL cJ A s b x mo (i + 1) st2 H2 locs2 ls2 → W p l e room_1 s m #[Value.ref b] below meth c H2 locs2 277 3929 (lw_Z below #[Value.ref b] s) (F0 m 18 ls2 [])) : W p l e room_1 s m #[Value.ref b] below meth c H locs 277 3929 (lw_Z below #[Value.ref b] s) (F0 m 18 ls []) := by
  have hC0 := hC
  obtain ⟨hx, hb, hr, hml, hown, hts, hX, hbl, hlocks, hAd, hA, hbA, hK, hst, hL⟩ := hC
  have hv0 := hv
  obtain ⟨hR, hP, hD, hS, hl⟩ := hv
  refine lv_iload_n hx hb dL_law_18 rfl (lv_at hl 0 rfl) ?_
  refine lv_aload_n hx hb dL_law_19 rfl (lv_at hl 3 rfl) ?_
  refine va_slen hx hb hX hbl hbA hS dL_law_20 ?_
  refine lv_bipush (v := 6) hx hb dL_law_21 (by decide) ?_
  refine lv_isub hx hb dL_law_23 ?_
  refine lv_icmp_gt (tgt := 1363) hx hb dL_law_24 (by decide) (fun c_ => absurd c_ (sc_go hi hL)) (fun _ => ?_)
  refine lv_aload_n hx hb dL_law_27 rfl (lv_at hl 3 rfl) ?_
  refine lv_iload_n hx hb dL_law_28 rfl (lv_at hl 0 rfl) ?_
  refine va_sld hx hb hX hbl hbA hS (vp_in_nI (by omega) (by omega)) dL_law_29 ?_
  refine lv_bipush (v := 63) hx hb dL_law_30 (by decide) ?_
  refine lv_iand hx hb dL_law_32 ?_
  refine lv_topi (fun y0 hy0 => ?_)
  by_cases k_0 : y0 = 0
  · subst k_0
    refine lv_tableIn (off := 163) (tgt := 196) hx hb dL_law_33 (by decide) (by decide) (by decide) (by decide) ?_
    exact lw_c0 hC0 hi hv0 ih
  by_cases k_1 : y0 = 1
  · subst k_1
    refine lv_tableIn (off := 206) (tgt := 239) hx hb dL_law_33 (by decide) (by decide) (by decide) (by decide) ?_
    exact lw_c1 hC0 hi hv0 ih
  by_cases k_2 : y0 = 2
  · subst k_2
    refine lv_tableIn (off := 249) (tgt := 282) hx hb dL_law_33 (by decide) (by decide) (by decide) (by decide) ?_
    exact lw_c2 hC0 hi hv0 ih
  by_cases k_3 : y0 = 3
  · subst k_3
    refine lv_tableIn (off := 312) (tgt := 345) hx hb dL_law_33 (by decide) (by decide) (by decide) (by decide) ?_
    exact lw_c3 hC0 hi hv0 ih
  by_cases k_4 : y0 = 4
  · subst k_4
    refine lv_tableIn (off := 335) (tgt := 368) hx hb dL_law_33 (by decide) (by decide) (by decide) (by decide) ?_
    exact lw_c4 hC0 hi hv0 ih
  by_cases k_5 : y0 = 5
  · subst k_5
    refine lv_tableIn (off := 358) (tgt := 391) hx hb dL_law_33 (by decide) (by decide) (by decide) (by decide) ?_
    exact lw_c5 hC0 hi hv0 ih
  by_cases k_6 : y0 = 6
  · subst k_6
    refine lv_tableIn (off := 371) (tgt := 404) hx hb dL_law_33 (by decide) (by decide) (by decide) (by decide) ?_
    exact lw_c6 hC0 hi hv0 ih
  by_cases k_7 : y0 = 7
  · subst k_7
    refine lv_tableIn (off := 384) (tgt := 417) hx hb dL_law_33 (by decide) (by decide) (by decide) (by decide) ?_
    exact lw_c7 hC0 hi hv0 ih
  by_cases k_8 : y0 = 8
  · subst k_8
    refine lv_tableIn (off := 397) (tgt := 430) hx hb dL_law_33 (by decide) (by decide) (by decide) (by decide) ?_
    exact lw_c8 hC0 hi hv0 ih
  by_cases k_9 : y0 = 9
  · subst k_9
    refine lv_tableIn (off := 420) (tgt := 453) hx hb dL_law_33 (by decide) (by decide) (by decide) (by decide) ?_
    exact lw_c9 hC0 hi hv0 ih
  by_cases k_10 : y0 = 10
  · subst k_10
    refine lv_tableIn (off := 433) (tgt := 466) hx hb dL_law_33 (by decide) (by decide) (by decide) (by decide) ?_
    exact lw_c10 hC0 hi hv0 ih
  by_cases k_11 : y0 = 11
  · subst k_11
    refine lv_tableIn (off := 466) (tgt := 499) hx hb dL_law_33 (by decide) (by decide) (by decide) (by decide) ?_
    exact lw_c11 hC0 hi hv0 ih
  by_cases k_12 : y0 = 12
  · subst k_12
    refine lv_tableIn (off := 509) (tgt := 542) hx hb dL_law_33 (by decide) (by decide) (by decide) (by decide) ?_
    exact lw_c12 hC0 hi hv0 ih
  by_cases k_13 : y0 = 13
  · subst k_13
    refine lv_tableIn (off := 532) (tgt := 565) hx hb dL_law_33 (by decide) (by decide) (by decide) (by decide) ?_
    exact lw_c13 hC0 hi hv0 ih
  by_cases k_14 : y0 = 14
  · subst k_14
    refine lv_tableIn (off := 565) (tgt := 598) hx hb dL_law_33 (by decide) (by decide) (by decide) (by decide) ?_
    exact lw_c14 hC0 hi hv0 ih
  by_cases k_15 : y0 = 15
  · subst k_15
    refine lv_tableIn (off := 588) (tgt := 621) hx hb dL_law_33 (by decide) (by decide) (by decide) (by decide) ?_
    exact lw_c15 hC0 hi hv0 ih
  by_cases k_16 : y0 = 16
  · subst k_16
    refine lv_tableIn (off := 611) (tgt := 644) hx hb dL_law_33 (by decide) (by decide) (by decide) (by decide) ?_
    exact lw_c16 hC0 hi hv0 ih
  by_cases k_17 : y0 = 17
  · subst k_17
    refine lv_tableIn (off := 654) (tgt := 687) hx hb dL_law_33 (by decide) (by decide) (by decide) (by decide) ?_
    exact lw_c17 hC0 hi hv0 ih
  by_cases k_18 : y0 = 18
  · subst k_18
    refine lv_tableIn (off := 677) (tgt := 710) hx hb dL_law_33 (by decide) (by decide) (by decide) (by decide) ?_
    exact lw_c18 hC0 hi hv0 ih
  by_cases k_19 : y0 = 19
  · subst k_19
    refine lv_tableIn (off := 710) (tgt := 743) hx hb dL_law_33 (by decide) (by decide) (by decide) (by decide) ?_
    exact lw_c19 hC0 hi hv0 ih
  by_cases k_20 : y0 = 20
  · subst k_20
    refine lv_tableIn (off := 743) (tgt := 776) hx hb dL_law_33 (by decide) (by decide) (by decide) (by decide) ?_
    exact lw_c20 hC0 hi hv0 ih
  by_cases k_21 : y0 = 21
  · subst k_21
    refine lv_tableIn (off := 776) (tgt := 809) hx hb dL_law_33 (by decide) (by decide) (by decide) (by decide) ?_
    exact lw_c21 hC0 hi hv0 ih
  by_cases k_22 : y0 = 22
  · subst k_22
    refine lv_tableIn (off := 809) (tgt := 842) hx hb dL_law_33 (by decide) (by decide) (by decide) (by decide) ?_
    exact lw_c22 hC0 hi hv0 ih
  by_cases k_23 : y0 = 23
  · subst k_23
    refine lv_tableIn (off := 842) (tgt := 875) hx hb dL_law_33 (by decide) (by decide) (by decide) (by decide) ?_
    exact lw_c23 hC0 hi hv0 ih
  by_cases k_24 : y0 = 24
  · subst k_24
    refine lv_tableIn (off := 875) (tgt := 908) hx hb dL_law_33 (by decide) (by decide) (by decide) (by decide) ?_
    exact lw_c24 hC0 hi hv0 ih
  by_cases k_25 : y0 = 25
  · subst k_25
    refine lv_tableIn (off := 908) (tgt := 941) hx hb dL_law_33 (by decide) (by decide) (by decide) (by decide) ?_
    exact lw_c25 hC0 hi hv0 ih
  by_cases k_26 : y0 = 26
  · subst k_26
    refine lv_tableIn (off := 971) (tgt := 1004) hx hb dL_law_33 (by decide) (by decide) (by decide) (by decide) ?_
    exact lw_c26 hC0 hi hv0 ih
  by_cases k_27 : y0 = 27
  · subst k_27
    refine lv_tableIn (off := 1034) (tgt := 1067) hx hb dL_law_33 (by decide) (by decide) (by decide) (by decide) ?_
    exact lw_c27 hC0 hi hv0 ih
  by_cases k_28 : y0 = 28
  · subst k_28
    refine lv_tableIn (off := 1087) (tgt := 1120) hx hb dL_law_33 (by decide) (by decide) (by decide) (by decide) ?_
    exact lw_c28 hC0 hi hv0 ih
  by_cases k_29 : y0 = 29
  · subst k_29
    refine lv_tableIn (off := 1130) (tgt := 1163) hx hb dL_law_33 (by decide) (by decide) (by decide) (by decide) ?_
    exact lw_c29 hC0 hi hv0 ih
  by_cases k_30 : y0 = 30
  · subst k_30
    refine lv_tableIn (off := 1153) (tgt := 1186) hx hb dL_law_33 (by decide) (by decide) (by decide) (by decide) ?_
    exact lw_c30 hC0 hi hv0 ih
  by_cases k_31 : y0 = 31
  · subst k_31
    refine lv_tableIn (off := 1176) (tgt := 1209) hx hb dL_law_33 (by decide) (by decide) (by decide) (by decide) ?_
    exact lw_c31 hC0 hi hv0 ih
  by_cases k_32 : y0 = 32
  · subst k_32
    refine lv_tableIn (off := 1199) (tgt := 1232) hx hb dL_law_33 (by decide) (by decide) (by decide) (by decide) ?_
    exact lw_c32 hC0 hi hv0 ih
  by_cases k_33 : y0 = 33
  · subst k_33
    refine lv_tableIn (off := 1232) (tgt := 1265) hx hb dL_law_33 (by decide) (by decide) (by decide) (by decide) ?_
    exact lw_c33 hC0 hi hv0 ih
  by_cases k_34 : y0 = 34
  · subst k_34
    refine lv_tableIn (off := 1265) (tgt := 1298) hx hb dL_law_33 (by decide) (by decide) (by decide) (by decide) ?_
    exact lw_c34 hC0 hi hv0 ih
  by_cases k_35 : y0 = 35
  · subst k_35
    refine lv_tableIn (off := 1288) (tgt := 1321) hx hb dL_law_33 (by decide) (by decide) (by decide) (by decide) ?_
    exact lw_c35 hC0 hi hv0 ih
  by_cases k_36 : y0 = 36
  · subst k_36
    refine lv_tableIn (off := 1311) (tgt := 1344) hx hb dL_law_33 (by decide) (by decide) (by decide) (by decide) ?_
    exact lw_c36 hC0 hi hv0 ih
  have k_0 := lv_neT k_0 (show (0 : Int32).toInt = 0 from rfl)
  have k_1 := lv_neT k_1 (show (1 : Int32).toInt = 1 from rfl)
  have k_2 := lv_neT k_2 (show (2 : Int32).toInt = 2 from rfl)
  have k_3 := lv_neT k_3 (show (3 : Int32).toInt = 3 from rfl)
  have k_4 := lv_neT k_4 (show (4 : Int32).toInt = 4 from rfl)
  have k_5 := lv_neT k_5 (show (5 : Int32).toInt = 5 from rfl)
  have k_6 := lv_neT k_6 (show (6 : Int32).toInt = 6 from rfl)
  have k_7 := lv_neT k_7 (show (7 : Int32).toInt = 7 from rfl)
  have k_8 := lv_neT k_8 (show (8 : Int32).toInt = 8 from rfl)
  have k_9 := lv_neT k_9 (show (9 : Int32).toInt = 9 from rfl)
  have k_10 := lv_neT k_10 (show (10 : Int32).toInt = 10 from rfl)
  have k_11 := lv_neT k_11 (show (11 : Int32).toInt = 11 from rfl)
  have k_12 := lv_neT k_12 (show (12 : Int32).toInt = 12 from rfl)
  have k_13 := lv_neT k_13 (show (13 : Int32).toInt = 13 from rfl)
  have k_14 := lv_neT k_14 (show (14 : Int32).toInt = 14 from rfl)
  have k_15 := lv_neT k_15 (show (15 : Int32).toInt = 15 from rfl)
  have k_16 := lv_neT k_16 (show (16 : Int32).toInt = 16 from rfl)
  have k_17 := lv_neT k_17 (show (17 : Int32).toInt = 17 from rfl)
  have k_18 := lv_neT k_18 (show (18 : Int32).toInt = 18 from rfl)
  have k_19 := lv_neT k_19 (show (19 : Int32).toInt = 19 from rfl)
  have k_20 := lv_neT k_20 (show (20 : Int32).toInt = 20 from rfl)
  have k_21 := lv_neT k_21 (show (21 : Int32).toInt = 21 from rfl)
  have k_22 := lv_neT k_22 (show (22 : Int32).toInt = 22 from rfl)
  have k_23 := lv_neT k_23 (show (23 : Int32).toInt = 23 from rfl)
  have k_24 := lv_neT k_24 (show (24 : Int32).toInt = 24 from rfl)
  have k_25 := lv_neT k_25 (show (25 : Int32).toInt = 25 from rfl)
  have k_26 := lv_neT k_26 (show (26 : Int32).toInt = 26 from rfl)
  have k_27 := lv_neT k_27 (show (27 : Int32).toInt = 27 from rfl)
  have k_28 := lv_neT k_28 (show (28 : Int32).toInt = 28 from rfl)
  have k_29 := lv_neT k_29 (show (29 : Int32).toInt = 29 from rfl)
  have k_30 := lv_neT k_30 (show (30 : Int32).toInt = 30 from rfl)
  have k_31 := lv_neT k_31 (show (31 : Int32).toInt = 31 from rfl)
  have k_32 := lv_neT k_32 (show (32 : Int32).toInt = 32 from rfl)
  have k_33 := lv_neT k_33 (show (33 : Int32).toInt = 33 from rfl)
  have k_34 := lv_neT k_34 (show (34 : Int32).toInt = 34 from rfl)
  have k_35 := lv_neT k_35 (show (35 : Int32).toInt = 35 from rfl)
  have k_36 := lv_neT k_36 (show (36 : Int32).toInt = 36 from rfl)
  refine lv_tableOut (tgt := 1357) hx hb dL_law_33 (by omega) (by decide) ?_
  exact lw_tail hC0 hi hv0 ih

-- 85.end
theorem nw_over {args : Array Value} {s : State} (h : (Cond.arrayOver (.array .int)).before args s = true) : ∃ (comp cA : ClassId) (k : Class), s.vm.findClass (FieldType.array .int).toString = some comp ∧ s.vm.classes[cA]? = some k ∧ k.kind = .array comp (.array .int) ∧ s.vm.findClass ("[" ++ (FieldType.array .int).toString) = some cA := by
  simp only [Cond.before, Cond.holds, Cond.value, beq_iff_eq] at h
  cases hc : s.vm.findClass (FieldType.array .int).toString with
  | none => simp [hc] at h
  | some comp =>
    simp only [hc, Option.bind_some, Option.bind_eq_some_iff, Option.map_eq_some_iff] at h
    obtain ⟨cA, hi, k, hk, hb⟩ := h
    obtain ⟨hlt, hp, -⟩ := Array.findIdx?_eq_some_iff_getElem.mp hi
    have hkk : s.vm.classes[cA] = k := (Array.getElem?_eq_some_iff.mp hk).2
    rw [hkk] at hp
    cases hkind : k.kind with
    | array component ty =>
      rw [hkind] at hb hp
      simp at hb hp
      exact ⟨comp, cA, k, rfl, hk, by rw [hkind, hp, hb.1], hb.2⟩
    | _ =>
      rw [hkind] at hb
      simp at hb
set_option maxHeartbeats 8000000 in
set_option maxRecDepth 100000 in
theorem bX7_el {dC : Nat → ClassId} {dI : Nat → Nat → Nat} {cI cZ cL cJ : ClassId} {sz x : Nat} {t : State} {P : Prop} (h : bX7 dC dI cI cZ cL cJ sz x t) (k : ∀ (ro : Nat) (ta : Nat) (no : Nat) (ac : Nat) (im : Nat) (tr : Nat) (pl : Nat) (cs : Nat) (ak : Nat) (it : Nat) (la : Nat) (le : Nat) (fl : Nat → Int32) (bs : Nat) (td : Nat) (tb1 : Nat) (tb2 : Nat) (tb3 : Nat) (tb4 : Nat) (tb5 : Nat) (nb1 : Nat) (nb2 : Nat) (nb3 : Nat) (nb4 : Nat) (nb5 : Nat) (abe : Nat) (afb : Nat → Option Nat) (imf : Nat → Option Nat) (i0 : Nat) (i0b1 : Nat) (i0b2 : Nat) (i0b3 : Nat) (i0b4 : Nat) (i0b5 : Nat) (i1 : Nat) (i1b1 : Nat) (i1b2 : Nat) (i1b3 : Nat) (i1b4 : Nat) (i1b5 : Nat) (qb1 : Nat) (qb2 : Nat) (qb3 : Nat) (qb4 : Nat) (qb5 : Nat) (bo : Nat) (ou : Nat) (bb1 : Nat) (bb2 : Nat) (bb3 : Nat) (bb4 : Nat) (bb5 : Nat) (ob1 : Nat) (ob2 : Nat) (ob3 : Nat) (ob4 : Nat) (ob5 : Nat) (cbe : Nat) (cfb : Nat → Option Nat) (tc : Nat) (cad : Nat → Nat) (cbd : Nat → Nat → Nat) (aad : Nat → Nat) (abd : Nat → Nat → Nat), (va_P (dC, dI) vwCl (([(xo_7_rrrrrrrrrii x ro ta no ac im tr pl cs ak 0 0), (xJ im cL 2 imf)] : va_W) ++ (([(xo_1_riiiii ak tc 0 0 0 0 0), (xI tc cI 16 (fun _ => 0))] : va_W) ++ (([(xo_2_riiiii cs cbe 0 0 0 0 0), (xJ cbe cL 9 cfb)] : va_W) ++ (lvs cI 9 cad cbd (fun _ _ => 0) (fun _ _ _ => 0) ++ (([(xo_4_rri pl bo ou 0), (xo_3_iiiiiiiirrrrr bo 0 0 0 0 0 0 0 0 bb1 bb2 bb3 bb4 bb5), (xI bb1 cI 6 (fun _ => 0)), (xI bb2 cI 6 (fun _ => 0)), (xI bb3 cI 6 (fun _ => 0)), (xI bb4 cI 6 (fun _ => 0)), (xI bb5 cI 6 (fun _ => 0)), (xo_3_iiiiiiiirrrrr ou 0 0 0 0 0 0 0 0 ob1 ob2 ob3 ob4 ob5), (xI ob1 cI 6 (fun _ => 0)), (xI ob2 cI 6 (fun _ => 0)), (xI ob3 cI 6 (fun _ => 0)), (xI ob4 cI 6 (fun _ => 0)), (xI ob5 cI 6 (fun _ => 0))] : va_W) ++ (([(xo_3_iiiiiiiirrrrr i0 0 0 0 0 0 0 0 0 i0b1 i0b2 i0b3 i0b4 i0b5), (xI i0b1 cI 6 (fun _ => 0)), (xI i0b2 cI 6 (fun _ => 0)), (xI i0b3 cI 6 (fun _ => 0)), (xI i0b4 cI 6 (fun _ => 0)), (xI i0b5 cI 6 (fun _ => 0)), (xo_3_iiiiiiiirrrrr i1 0 0 0 0 0 0 0 0 i1b1 i1b2 i1b3 i1b4 i1b5), (xI i1b1 cI 6 (fun _ => 0)), (xI i1b2 cI 6 (fun _ => 0)), (xI i1b3 cI 6 (fun _ => 0)), (xI i1b4 cI 6 (fun _ => 0)), (xI i1b5 cI 6 (fun _ => 0)), (xo_3_iiiiiiiirrrrr tr 0 0 0 0 0 0 0 0 qb1 qb2 qb3 qb4 qb5), (xI qb1 cI 6 (fun _ => 0)), (xI qb2 cI 6 (fun _ => 0)), (xI qb3 cI 6 (fun _ => 0)), (xI qb4 cI 6 (fun _ => 0)), (xI qb5 cI 6 (fun _ => 0))] : va_W) ++ (([(xo_0_rii ac abe 0 0), (xJ abe cL 24 afb)] : va_W) ++ (lvs cI 24 aad abd (fun _ _ => 0) (fun _ _ _ => 0) ++ (([(xo_3_iiiiiiiirrrrr no 0 0 0 0 0 0 0 0 nb1 nb2 nb3 nb4 nb5), (xI nb1 cI 6 (fun _ => 0)), (xI nb2 cI 6 (fun _ => 0)), (xI nb3 cI 6 (fun _ => 0)), (xI nb4 cI 6 (fun _ => 0)), (xI nb5 cI 6 (fun _ => 0))] : va_W) ++ (([(xo_6_ririii ta bs 0 td 0 0 0), (xI bs cI 120 (fun _ => 0)), (xo_3_iiiiiiiirrrrr td 0 0 0 0 0 0 0 0 tb1 tb2 tb3 tb4 tb5), (xI tb1 cI 6 (fun _ => 0)), (xI tb2 cI 6 (fun _ => 0)), (xI tb3 cI 6 (fun _ => 0)), (xI tb4 cI 6 (fun _ => 0)), (xI tb5 cI 6 (fun _ => 0))] : va_W) ++ ([(xo_5_rrr ro it la le), (xI la cI 8 fl), (xI le cI 8 (fun _ => 0)), (xJ it cJ 8 (fun i => if i < 8 then some (it + 1 + i) else none)), (xI (it + 1 + 0) cI 40 (fun _ => 0)), (xI (it + 1 + 1) cI 40 (fun _ => 0)), (xI (it + 1 + 2) cI 40 (fun _ => 0)), (xI (it + 1 + 3) cI 40 (fun _ => 0)), (xI (it + 1 + 4) cI 40 (fun _ => 0)), (xI (it + 1 + 5) cI 40 (fun _ => 0)), (xI (it + 1 + 6) cI 40 (fun _ => 0)), (xI (it + 1 + 7) cI 40 (fun _ => 0))] : va_W))))))))))) t.heap) → (va_D (va_A [(x, .inr (7, [.null, .null, .null, .null, .null, .null, .null, .null, .null, .int 0, .int 0]))] sz) (([(xo_7_rrrrrrrrrii x ro ta no ac im tr pl cs ak 0 0), (xJ im cL 2 imf)] : va_W) ++ (([(xo_1_riiiii ak tc 0 0 0 0 0), (xI tc cI 16 (fun _ => 0))] : va_W) ++ (([(xo_2_riiiii cs cbe 0 0 0 0 0), (xJ cbe cL 9 cfb)] : va_W) ++ (lvs cI 9 cad cbd (fun _ _ => 0) (fun _ _ _ => 0) ++ (([(xo_4_rri pl bo ou 0), (xo_3_iiiiiiiirrrrr bo 0 0 0 0 0 0 0 0 bb1 bb2 bb3 bb4 bb5), (xI bb1 cI 6 (fun _ => 0)), (xI bb2 cI 6 (fun _ => 0)), (xI bb3 cI 6 (fun _ => 0)), (xI bb4 cI 6 (fun _ => 0)), (xI bb5 cI 6 (fun _ => 0)), (xo_3_iiiiiiiirrrrr ou 0 0 0 0 0 0 0 0 ob1 ob2 ob3 ob4 ob5), (xI ob1 cI 6 (fun _ => 0)), (xI ob2 cI 6 (fun _ => 0)), (xI ob3 cI 6 (fun _ => 0)), (xI ob4 cI 6 (fun _ => 0)), (xI ob5 cI 6 (fun _ => 0))] : va_W) ++ (([(xo_3_iiiiiiiirrrrr i0 0 0 0 0 0 0 0 0 i0b1 i0b2 i0b3 i0b4 i0b5), (xI i0b1 cI 6 (fun _ => 0)), (xI i0b2 cI 6 (fun _ => 0)), (xI i0b3 cI 6 (fun _ => 0)), (xI i0b4 cI 6 (fun _ => 0)), (xI i0b5 cI 6 (fun _ => 0)), (xo_3_iiiiiiiirrrrr i1 0 0 0 0 0 0 0 0 i1b1 i1b2 i1b3 i1b4 i1b5), (xI i1b1 cI 6 (fun _ => 0)), (xI i1b2 cI 6 (fun _ => 0)), (xI i1b3 cI 6 (fun _ => 0)), (xI i1b4 cI 6 (fun _ => 0)), (xI i1b5 cI 6 (fun _ => 0)), (xo_3_iiiiiiiirrrrr tr 0 0 0 0 0 0 0 0 qb1 qb2 qb3 qb4 qb5), (xI qb1 cI 6 (fun _ => 0)), (xI qb2 cI 6 (fun _ => 0)), (xI qb3 cI 6 (fun _ => 0)), (xI qb4 cI 6 (fun _ => 0)), (xI qb5 cI 6 (fun _ => 0))] : va_W) ++ (([(xo_0_rii ac abe 0 0), (xJ abe cL 24 afb)] : va_W) ++ (lvs cI 24 aad abd (fun _ _ => 0) (fun _ _ _ => 0) ++ (([(xo_3_iiiiiiiirrrrr no 0 0 0 0 0 0 0 0 nb1 nb2 nb3 nb4 nb5), (xI nb1 cI 6 (fun _ => 0)), (xI nb2 cI 6 (fun _ => 0)), (xI nb3 cI 6 (fun _ => 0)), (xI nb4 cI 6 (fun _ => 0)), (xI nb5 cI 6 (fun _ => 0))] : va_W) ++ (([(xo_6_ririii ta bs 0 td 0 0 0), (xI bs cI 120 (fun _ => 0)), (xo_3_iiiiiiiirrrrr td 0 0 0 0 0 0 0 0 tb1 tb2 tb3 tb4 tb5), (xI tb1 cI 6 (fun _ => 0)), (xI tb2 cI 6 (fun _ => 0)), (xI tb3 cI 6 (fun _ => 0)), (xI tb4 cI 6 (fun _ => 0)), (xI tb5 cI 6 (fun _ => 0))] : va_W) ++ ([(xo_5_rrr ro it la le), (xI la cI 8 fl), (xI le cI 8 (fun _ => 0)), (xJ it cJ 8 (fun i => if i < 8 then some (it + 1 + i) else none)), (xI (it + 1 + 0) cI 40 (fun _ => 0)), (xI (it + 1 + 1) cI 40 (fun _ => 0)), (xI (it + 1 + 2) cI 40 (fun _ => 0)), (xI (it + 1 + 3) cI 40 (fun _ => 0)), (xI (it + 1 + 4) cI 40 (fun _ => 0)), (xI (it + 1 + 5) cI 40 (fun _ => 0)), (xI (it + 1 + 6) cI 40 (fun _ => 0)), (xI (it + 1 + 7) cI 40 (fun _ => 0))] : va_W)))))))))))) → ((∀ i : Nat, i < 24 → afb i = some (aad i))) → ((∀ i : Nat, i < 9 → cfb i = some (cad i))) → (imf 0 = some i0) → (imf 1 = some i1) → ((∀ j : Nat, j < 8 → fl j = -1)) → P) : P := Exists.elim h (fun ro h => Exists.elim h (fun ta h => Exists.elim h (fun no h => Exists.elim h (fun ac h => Exists.elim h (fun im h => Exists.elim h (fun tr h => Exists.elim h (fun pl h => Exists.elim h (fun cs h => Exists.elim h (fun ak h => Exists.elim h (fun it h => Exists.elim h (fun la h => Exists.elim h (fun le h => Exists.elim h (fun fl h => Exists.elim h (fun bs h => Exists.elim h (fun td h => Exists.elim h (fun tb1 h => Exists.elim h (fun tb2 h => Exists.elim h (fun tb3 h => Exists.elim h (fun tb4 h => Exists.elim h (fun tb5 h => Exists.elim h (fun nb1 h => Exists.elim h (fun nb2 h => Exists.elim h (fun nb3 h => Exists.elim h (fun nb4 h => Exists.elim h (fun nb5 h => Exists.elim h (fun abe h => Exists.elim h (fun afb h => Exists.elim h (fun imf h => Exists.elim h (fun i0 h => Exists.elim h (fun i0b1 h => Exists.elim h (fun i0b2 h => Exists.elim h (fun i0b3 h => Exists.elim h (fun i0b4 h => Exists.elim h (fun i0b5 h => Exists.elim h (fun i1 h => Exists.elim h (fun i1b1 h => Exists.elim h (fun i1b2 h => Exists.elim h (fun i1b3 h => Exists.elim h (fun i1b4 h => Exists.elim h (fun i1b5 h => Exists.elim h (fun qb1 h => Exists.elim h (fun qb2 h => Exists.elim h (fun qb3 h => Exists.elim h (fun qb4 h => Exists.elim h (fun qb5 h => Exists.elim h (fun bo h => Exists.elim h (fun ou h => Exists.elim h (fun bb1 h => Exists.elim h (fun bb2 h => Exists.elim h (fun bb3 h => Exists.elim h (fun bb4 h => Exists.elim h (fun bb5 h => Exists.elim h (fun ob1 h => Exists.elim h (fun ob2 h => Exists.elim h (fun ob3 h => Exists.elim h (fun ob4 h => Exists.elim h (fun ob5 h => Exists.elim h (fun cbe h => Exists.elim h (fun cfb h => Exists.elim h (fun tc h => Exists.elim h (fun cad h => Exists.elim h (fun cbd h => Exists.elim h (fun aad h => Exists.elim h (fun abd h => k ro ta no ac im tr pl cs ak it la le fl bs td tb1 tb2 tb3 tb4 tb5 nb1 nb2 nb3 nb4 nb5 abe afb imf i0 i0b1 i0b2 i0b3 i0b4 i0b5 i1 i1b1 i1b2 i1b3 i1b4 i1b5 qb1 qb2 qb3 qb4 qb5 bo ou bb1 bb2 bb3 bb4 bb5 ob1 ob2 ob3 ob4 ob5 cbe cfb tc cad cbd aad abd h.1 h.2.1 h.2.2.1 h.2.2.2.1 h.2.2.2.2.1 h.2.2.2.2.2.1 h.2.2.2.2.2.2))))))))))))))))))))))))))))))))))))))))))))))))))))))))))))))))
set_option maxHeartbeats 8000000 in
set_option maxRecDepth 100000 in
theorem pkX {dC : Nat → ClassId} {dI : Nat → Nat → Nat} {cI cZ cL cJ : ClassId} {sz x : Nat} {t : State} (h : bX7 dC dI cI cZ cL cJ sz x t) : ∃ w9 : va_W, va_P (dC, dI) vwCl w9 t.heap ∧ va_D (va_A [(x, .inr (7, [.null, .null, .null, .null, .null, .null, .null, .null, .null, .int 0, .int 0]))] sz) w9 ∧ ISX cI cZ cL cJ x (fun _ => -1) (fun _ => 0) 0 (fun _ => 0) 0 zR 0 (fun _ => zR) zR zR 0 (fun _ => 0) 0 (fun _ _ => 0) w9 := by
  refine bX7_el h (fun ro ta no ac im tr pl cs ak it la le fl bs td tb1 tb2 tb3 tb4 tb5 nb1 nb2 nb3 nb4 nb5 abe afb imf i0 i0b1 i0b2 i0b3 i0b4 i0b5 i1 i1b1 i1b2 i1b3 i1b4 i1b5 qb1 qb2 qb3 qb4 qb5 bo ou bb1 bb2 bb3 bb4 bb5 ob1 ob2 ob3 ob4 ob5 cbe cfb tc cad cbd aad abd hP hD hF_1_0 hF_1_1 hF_1_2 hF_1_3 hF_1_4 => ?_)
  have eC : ([[(xo_7_rrrrrrrrrii x ro ta no ac im tr pl cs ak 0 0)], [(xJ im cL 2 imf)], [(xo_1_riiiii ak tc 0 0 0 0 0)], [(xI tc cI 16 (fun _ => 0))], [(xo_2_riiiii cs cbe 0 0 0 0 0)], [(xJ cbe cL 9 cfb)], lvs cI 9 cad cbd (fun _ _ => 0) (fun _ _ _ => 0), [(xo_4_rri pl bo ou 0)], [(xo_3_iiiiiiiirrrrr bo 0 0 0 0 0 0 0 0 bb1 bb2 bb3 bb4 bb5), (xI bb1 cI 6 (fun _ => 0)), (xI bb2 cI 6 (fun _ => 0)), (xI bb3 cI 6 (fun _ => 0)), (xI bb4 cI 6 (fun _ => 0)), (xI bb5 cI 6 (fun _ => 0))], [(xo_3_iiiiiiiirrrrr ou 0 0 0 0 0 0 0 0 ob1 ob2 ob3 ob4 ob5), (xI ob1 cI 6 (fun _ => 0)), (xI ob2 cI 6 (fun _ => 0)), (xI ob3 cI 6 (fun _ => 0)), (xI ob4 cI 6 (fun _ => 0)), (xI ob5 cI 6 (fun _ => 0))], [(xo_3_iiiiiiiirrrrr i0 0 0 0 0 0 0 0 0 i0b1 i0b2 i0b3 i0b4 i0b5), (xI i0b1 cI 6 (fun _ => 0)), (xI i0b2 cI 6 (fun _ => 0)), (xI i0b3 cI 6 (fun _ => 0)), (xI i0b4 cI 6 (fun _ => 0)), (xI i0b5 cI 6 (fun _ => 0))], [(xo_3_iiiiiiiirrrrr i1 0 0 0 0 0 0 0 0 i1b1 i1b2 i1b3 i1b4 i1b5), (xI i1b1 cI 6 (fun _ => 0)), (xI i1b2 cI 6 (fun _ => 0)), (xI i1b3 cI 6 (fun _ => 0)), (xI i1b4 cI 6 (fun _ => 0)), (xI i1b5 cI 6 (fun _ => 0))], [(xo_3_iiiiiiiirrrrr tr 0 0 0 0 0 0 0 0 qb1 qb2 qb3 qb4 qb5), (xI qb1 cI 6 (fun _ => 0)), (xI qb2 cI 6 (fun _ => 0)), (xI qb3 cI 6 (fun _ => 0)), (xI qb4 cI 6 (fun _ => 0)), (xI qb5 cI 6 (fun _ => 0))], [(xo_0_rii ac abe 0 0)], [(xJ abe cL 24 afb)], lvs cI 24 aad abd (fun _ _ => 0) (fun _ _ _ => 0), [(xo_3_iiiiiiiirrrrr no 0 0 0 0 0 0 0 0 nb1 nb2 nb3 nb4 nb5), (xI nb1 cI 6 (fun _ => 0)), (xI nb2 cI 6 (fun _ => 0)), (xI nb3 cI 6 (fun _ => 0)), (xI nb4 cI 6 (fun _ => 0)), (xI nb5 cI 6 (fun _ => 0))], [(xo_6_ririii ta bs 0 td 0 0 0)], [(xI bs cI 120 (fun _ => 0))], [(xo_3_iiiiiiiirrrrr td 0 0 0 0 0 0 0 0 tb1 tb2 tb3 tb4 tb5), (xI tb1 cI 6 (fun _ => 0)), (xI tb2 cI 6 (fun _ => 0)), (xI tb3 cI 6 (fun _ => 0)), (xI tb4 cI 6 (fun _ => 0)), (xI tb5 cI 6 (fun _ => 0))], [(xo_5_rrr ro it la le)], [(xI la cI 8 fl)], [(xI le cI 8 (fun _ => 0))], [(xJ it cJ 8 (fun i => if i < 8 then some (it + 1 + i) else none)), (xI (it + 1 + 0) cI 40 (fun _ => 0)), (xI (it + 1 + 1) cI 40 (fun _ => 0)), (xI (it + 1 + 2) cI 40 (fun _ => 0)), (xI (it + 1 + 3) cI 40 (fun _ => 0)), (xI (it + 1 + 4) cI 40 (fun _ => 0)), (xI (it + 1 + 5) cI 40 (fun _ => 0)), (xI (it + 1 + 6) cI 40 (fun _ => 0)), (xI (it + 1 + 7) cI 40 (fun _ => 0))]] : List va_W).flatten = (([(xo_7_rrrrrrrrrii x ro ta no ac im tr pl cs ak 0 0), (xJ im cL 2 imf)] : va_W) ++ (([(xo_1_riiiii ak tc 0 0 0 0 0), (xI tc cI 16 (fun _ => 0))] : va_W) ++ (([(xo_2_riiiii cs cbe 0 0 0 0 0), (xJ cbe cL 9 cfb)] : va_W) ++ (lvs cI 9 cad cbd (fun _ _ => 0) (fun _ _ _ => 0) ++ (([(xo_4_rri pl bo ou 0), (xo_3_iiiiiiiirrrrr bo 0 0 0 0 0 0 0 0 bb1 bb2 bb3 bb4 bb5), (xI bb1 cI 6 (fun _ => 0)), (xI bb2 cI 6 (fun _ => 0)), (xI bb3 cI 6 (fun _ => 0)), (xI bb4 cI 6 (fun _ => 0)), (xI bb5 cI 6 (fun _ => 0)), (xo_3_iiiiiiiirrrrr ou 0 0 0 0 0 0 0 0 ob1 ob2 ob3 ob4 ob5), (xI ob1 cI 6 (fun _ => 0)), (xI ob2 cI 6 (fun _ => 0)), (xI ob3 cI 6 (fun _ => 0)), (xI ob4 cI 6 (fun _ => 0)), (xI ob5 cI 6 (fun _ => 0))] : va_W) ++ (([(xo_3_iiiiiiiirrrrr i0 0 0 0 0 0 0 0 0 i0b1 i0b2 i0b3 i0b4 i0b5), (xI i0b1 cI 6 (fun _ => 0)), (xI i0b2 cI 6 (fun _ => 0)), (xI i0b3 cI 6 (fun _ => 0)), (xI i0b4 cI 6 (fun _ => 0)), (xI i0b5 cI 6 (fun _ => 0)), (xo_3_iiiiiiiirrrrr i1 0 0 0 0 0 0 0 0 i1b1 i1b2 i1b3 i1b4 i1b5), (xI i1b1 cI 6 (fun _ => 0)), (xI i1b2 cI 6 (fun _ => 0)), (xI i1b3 cI 6 (fun _ => 0)), (xI i1b4 cI 6 (fun _ => 0)), (xI i1b5 cI 6 (fun _ => 0)), (xo_3_iiiiiiiirrrrr tr 0 0 0 0 0 0 0 0 qb1 qb2 qb3 qb4 qb5), (xI qb1 cI 6 (fun _ => 0)), (xI qb2 cI 6 (fun _ => 0)), (xI qb3 cI 6 (fun _ => 0)), (xI qb4 cI 6 (fun _ => 0)), (xI qb5 cI 6 (fun _ => 0))] : va_W) ++ (([(xo_0_rii ac abe 0 0), (xJ abe cL 24 afb)] : va_W) ++ (lvs cI 24 aad abd (fun _ _ => 0) (fun _ _ _ => 0) ++ (([(xo_3_iiiiiiiirrrrr no 0 0 0 0 0 0 0 0 nb1 nb2 nb3 nb4 nb5), (xI nb1 cI 6 (fun _ => 0)), (xI nb2 cI 6 (fun _ => 0)), (xI nb3 cI 6 (fun _ => 0)), (xI nb4 cI 6 (fun _ => 0)), (xI nb5 cI 6 (fun _ => 0))] : va_W) ++ (([(xo_6_ririii ta bs 0 td 0 0 0), (xI bs cI 120 (fun _ => 0)), (xo_3_iiiiiiiirrrrr td 0 0 0 0 0 0 0 0 tb1 tb2 tb3 tb4 tb5), (xI tb1 cI 6 (fun _ => 0)), (xI tb2 cI 6 (fun _ => 0)), (xI tb3 cI 6 (fun _ => 0)), (xI tb4 cI 6 (fun _ => 0)), (xI tb5 cI 6 (fun _ => 0))] : va_W) ++ ([(xo_5_rrr ro it la le), (xI la cI 8 fl), (xI le cI 8 (fun _ => 0)), (xJ it cJ 8 (fun i => if i < 8 then some (it + 1 + i) else none)), (xI (it + 1 + 0) cI 40 (fun _ => 0)), (xI (it + 1 + 1) cI 40 (fun _ => 0)), (xI (it + 1 + 2) cI 40 (fun _ => 0)), (xI (it + 1 + 3) cI 40 (fun _ => 0)), (xI (it + 1 + 4) cI 40 (fun _ => 0)), (xI (it + 1 + 5) cI 40 (fun _ => 0)), (xI (it + 1 + 6) cI 40 (fun _ => 0)), (xI (it + 1 + 7) cI 40 (fun _ => 0))] : va_W))))))))))) := (by simp only [List.flatten_cons, List.flatten_nil, List.append_nil, List.cons_append, List.nil_append, List.append_assoc])
  rw [← eC] at hP hD
  have pX : ([[(xo_7_rrrrrrrrrii x ro ta no ac im tr pl cs ak 0 0)], [(xo_5_rrr ro it la le)], [(xI la cI 8 fl)], [(xI le cI 8 (fun _ => 0))], [(xJ it cJ 8 (fun i => if i < 8 then some (it + 1 + i) else none)), (xI (it + 1 + 0) cI 40 (fun _ => 0)), (xI (it + 1 + 1) cI 40 (fun _ => 0)), (xI (it + 1 + 2) cI 40 (fun _ => 0)), (xI (it + 1 + 3) cI 40 (fun _ => 0)), (xI (it + 1 + 4) cI 40 (fun _ => 0)), (xI (it + 1 + 5) cI 40 (fun _ => 0)), (xI (it + 1 + 6) cI 40 (fun _ => 0)), (xI (it + 1 + 7) cI 40 (fun _ => 0))], [(xo_6_ririii ta bs 0 td 0 0 0)], [(xI bs cI 120 (fun _ => 0))], [(xo_3_iiiiiiiirrrrr td 0 0 0 0 0 0 0 0 tb1 tb2 tb3 tb4 tb5), (xI tb1 cI 6 (fun _ => 0)), (xI tb2 cI 6 (fun _ => 0)), (xI tb3 cI 6 (fun _ => 0)), (xI tb4 cI 6 (fun _ => 0)), (xI tb5 cI 6 (fun _ => 0))], [(xo_3_iiiiiiiirrrrr no 0 0 0 0 0 0 0 0 nb1 nb2 nb3 nb4 nb5), (xI nb1 cI 6 (fun _ => 0)), (xI nb2 cI 6 (fun _ => 0)), (xI nb3 cI 6 (fun _ => 0)), (xI nb4 cI 6 (fun _ => 0)), (xI nb5 cI 6 (fun _ => 0))], [(xo_0_rii ac abe 0 0)], [(xJ abe cL 24 afb)], lvs cI 24 aad abd (fun _ _ => 0) (fun _ _ _ => 0), [(xJ im cL 2 imf)], [(xo_3_iiiiiiiirrrrr i0 0 0 0 0 0 0 0 0 i0b1 i0b2 i0b3 i0b4 i0b5), (xI i0b1 cI 6 (fun _ => 0)), (xI i0b2 cI 6 (fun _ => 0)), (xI i0b3 cI 6 (fun _ => 0)), (xI i0b4 cI 6 (fun _ => 0)), (xI i0b5 cI 6 (fun _ => 0))], [(xo_3_iiiiiiiirrrrr i1 0 0 0 0 0 0 0 0 i1b1 i1b2 i1b3 i1b4 i1b5), (xI i1b1 cI 6 (fun _ => 0)), (xI i1b2 cI 6 (fun _ => 0)), (xI i1b3 cI 6 (fun _ => 0)), (xI i1b4 cI 6 (fun _ => 0)), (xI i1b5 cI 6 (fun _ => 0))], [(xo_3_iiiiiiiirrrrr tr 0 0 0 0 0 0 0 0 qb1 qb2 qb3 qb4 qb5), (xI qb1 cI 6 (fun _ => 0)), (xI qb2 cI 6 (fun _ => 0)), (xI qb3 cI 6 (fun _ => 0)), (xI qb4 cI 6 (fun _ => 0)), (xI qb5 cI 6 (fun _ => 0))], [(xo_4_rri pl bo ou 0)], [(xo_3_iiiiiiiirrrrr bo 0 0 0 0 0 0 0 0 bb1 bb2 bb3 bb4 bb5), (xI bb1 cI 6 (fun _ => 0)), (xI bb2 cI 6 (fun _ => 0)), (xI bb3 cI 6 (fun _ => 0)), (xI bb4 cI 6 (fun _ => 0)), (xI bb5 cI 6 (fun _ => 0))], [(xo_3_iiiiiiiirrrrr ou 0 0 0 0 0 0 0 0 ob1 ob2 ob3 ob4 ob5), (xI ob1 cI 6 (fun _ => 0)), (xI ob2 cI 6 (fun _ => 0)), (xI ob3 cI 6 (fun _ => 0)), (xI ob4 cI 6 (fun _ => 0)), (xI ob5 cI 6 (fun _ => 0))], [(xo_2_riiiii cs cbe 0 0 0 0 0)], [(xJ cbe cL 9 cfb)], lvs cI 9 cad cbd (fun _ _ => 0) (fun _ _ _ => 0), [(xo_1_riiiii ak tc 0 0 0 0 0)], [(xI tc cI 16 (fun _ => 0))]] : List va_W).flatten.Perm ([[(xo_7_rrrrrrrrrii x ro ta no ac im tr pl cs ak 0 0)], [(xJ im cL 2 imf)], [(xo_1_riiiii ak tc 0 0 0 0 0)], [(xI tc cI 16 (fun _ => 0))], [(xo_2_riiiii cs cbe 0 0 0 0 0)], [(xJ cbe cL 9 cfb)], lvs cI 9 cad cbd (fun _ _ => 0) (fun _ _ _ => 0), [(xo_4_rri pl bo ou 0)], [(xo_3_iiiiiiiirrrrr bo 0 0 0 0 0 0 0 0 bb1 bb2 bb3 bb4 bb5), (xI bb1 cI 6 (fun _ => 0)), (xI bb2 cI 6 (fun _ => 0)), (xI bb3 cI 6 (fun _ => 0)), (xI bb4 cI 6 (fun _ => 0)), (xI bb5 cI 6 (fun _ => 0))], [(xo_3_iiiiiiiirrrrr ou 0 0 0 0 0 0 0 0 ob1 ob2 ob3 ob4 ob5), (xI ob1 cI 6 (fun _ => 0)), (xI ob2 cI 6 (fun _ => 0)), (xI ob3 cI 6 (fun _ => 0)), (xI ob4 cI 6 (fun _ => 0)), (xI ob5 cI 6 (fun _ => 0))], [(xo_3_iiiiiiiirrrrr i0 0 0 0 0 0 0 0 0 i0b1 i0b2 i0b3 i0b4 i0b5), (xI i0b1 cI 6 (fun _ => 0)), (xI i0b2 cI 6 (fun _ => 0)), (xI i0b3 cI 6 (fun _ => 0)), (xI i0b4 cI 6 (fun _ => 0)), (xI i0b5 cI 6 (fun _ => 0))], [(xo_3_iiiiiiiirrrrr i1 0 0 0 0 0 0 0 0 i1b1 i1b2 i1b3 i1b4 i1b5), (xI i1b1 cI 6 (fun _ => 0)), (xI i1b2 cI 6 (fun _ => 0)), (xI i1b3 cI 6 (fun _ => 0)), (xI i1b4 cI 6 (fun _ => 0)), (xI i1b5 cI 6 (fun _ => 0))], [(xo_3_iiiiiiiirrrrr tr 0 0 0 0 0 0 0 0 qb1 qb2 qb3 qb4 qb5), (xI qb1 cI 6 (fun _ => 0)), (xI qb2 cI 6 (fun _ => 0)), (xI qb3 cI 6 (fun _ => 0)), (xI qb4 cI 6 (fun _ => 0)), (xI qb5 cI 6 (fun _ => 0))], [(xo_0_rii ac abe 0 0)], [(xJ abe cL 24 afb)], lvs cI 24 aad abd (fun _ _ => 0) (fun _ _ _ => 0), [(xo_3_iiiiiiiirrrrr no 0 0 0 0 0 0 0 0 nb1 nb2 nb3 nb4 nb5), (xI nb1 cI 6 (fun _ => 0)), (xI nb2 cI 6 (fun _ => 0)), (xI nb3 cI 6 (fun _ => 0)), (xI nb4 cI 6 (fun _ => 0)), (xI nb5 cI 6 (fun _ => 0))], [(xo_6_ririii ta bs 0 td 0 0 0)], [(xI bs cI 120 (fun _ => 0))], [(xo_3_iiiiiiiirrrrr td 0 0 0 0 0 0 0 0 tb1 tb2 tb3 tb4 tb5), (xI tb1 cI 6 (fun _ => 0)), (xI tb2 cI 6 (fun _ => 0)), (xI tb3 cI 6 (fun _ => 0)), (xI tb4 cI 6 (fun _ => 0)), (xI tb5 cI 6 (fun _ => 0))], [(xo_5_rrr ro it la le)], [(xI la cI 8 fl)], [(xI le cI 8 (fun _ => 0))], [(xJ it cJ 8 (fun i => if i < 8 then some (it + 1 + i) else none)), (xI (it + 1 + 0) cI 40 (fun _ => 0)), (xI (it + 1 + 1) cI 40 (fun _ => 0)), (xI (it + 1 + 2) cI 40 (fun _ => 0)), (xI (it + 1 + 3) cI 40 (fun _ => 0)), (xI (it + 1 + 4) cI 40 (fun _ => 0)), (xI (it + 1 + 5) cI 40 (fun _ => 0)), (xI (it + 1 + 6) cI 40 (fun _ => 0)), (xI (it + 1 + 7) cI 40 (fun _ => 0))]] : List va_W).flatten := (pmB [0, 12, 22, 23, 19, 20, 21, 16, 17, 18, 13, 14, 15, 9, 10, 11, 8, 5, 6, 7, 1, 2, 3, 4] 24 rfl (by decide +kernel) rfl).flatten
  have hXO : isXO cI cZ cL cJ x ro ta no ac im tr pl cs ak 0 0 [(xo_7_rrrrrrrrrii x ro ta no ac im tr pl cs ak 0 0)] := ⟨0, 0, rfl, rfl, rfl⟩
  have hROWS : isROWS cI cZ cL cJ ro (fun _ => -1) (fun _ => 0) (fun _ _ => 0) [(xo_5_rrr ro it la le)] [(xI la cI 8 fl)] [(xI le cI 8 (fun _ => 0))] [(xJ it cJ 8 (fun i => if i < 8 then some (it + 1 + i) else none)), (xI (it + 1 + 0) cI 40 (fun _ => 0)), (xI (it + 1 + 1) cI 40 (fun _ => 0)), (xI (it + 1 + 2) cI 40 (fun _ => 0)), (xI (it + 1 + 3) cI 40 (fun _ => 0)), (xI (it + 1 + 4) cI 40 (fun _ => 0)), (xI (it + 1 + 5) cI 40 (fun _ => 0)), (xI (it + 1 + 6) cI 40 (fun _ => 0)), (xI (it + 1 + 7) cI 40 (fun _ => 0))] := ⟨it, la, le, fl, (fun _ => 0), (it + 1 + 0), (it + 1 + 1), (it + 1 + 2), (it + 1 + 3), (it + 1 + 4), (it + 1 + 5), (it + 1 + 6), (it + 1 + 7), (fun _ => 0), (fun _ => 0), (fun _ => 0), (fun _ => 0), (fun _ => 0), (fun _ => 0), (fun _ => 0), (fun _ => 0), (fun i => if i < 8 then some (it + 1 + i) else none), rfl, rfl, rfl, rfl, (⟨rfl, rfl, rfl, rfl, rfl, rfl, rfl, rfl⟩), (fun j _ => ⟨0, by decide, rfl⟩), (abl_0 hF_1_4), (abn_0 hF_1_4), it_z.symm⟩
  have hTAPE : isTAPE cI cZ cL cJ ta 0 (fun _ => 0) [(xo_6_ririii ta bs 0 td 0 0 0)] [(xI bs cI 120 (fun _ => 0))] [(xo_3_iiiiiiiirrrrr td 0 0 0 0 0 0 0 0 tb1 tb2 tb3 tb4 tb5), (xI tb1 cI 6 (fun _ => 0)), (xI tb2 cI 6 (fun _ => 0)), (xI tb3 cI 6 (fun _ => 0)), (xI tb4 cI 6 (fun _ => 0)), (xI tb5 cI 6 (fun _ => 0))] := ⟨bs, td, 0, 0, 0, 0, (fun _ => 0), 0, 0, 0, 0, 0, 0, 0, 0, tb1, tb2, tb3, tb4, tb5, (fun _ => 0), (fun _ => 0), (fun _ => 0), (fun _ => 0), (fun _ => 0), rfl, rfl, rfl, (by decide), (by decide), (by decide), (by decide), (okT_0 _), rfl, rfl⟩
  have hNOW : isNOW cI cZ cL cJ no zR [(xo_3_iiiiiiiirrrrr no 0 0 0 0 0 0 0 0 nb1 nb2 nb3 nb4 nb5), (xI nb1 cI 6 (fun _ => 0)), (xI nb2 cI 6 (fun _ => 0)), (xI nb3 cI 6 (fun _ => 0)), (xI nb4 cI 6 (fun _ => 0)), (xI nb5 cI 6 (fun _ => 0))] := ⟨0, 0, 0, 0, 0, 0, 0, 0, nb1, nb2, nb3, nb4, nb5, (fun _ => 0), (fun _ => 0), (fun _ => 0), (fun _ => 0), (fun _ => 0), rfl, (by decide), (by decide), (by decide), nr_z.symm⟩
  have hACTS : isACTS cI cZ cL cJ ac 0 (fun _ => zR) [(xo_0_rii ac abe 0 0)] [(xJ abe cL 24 afb)] (lvs cI 24 aad abd (fun _ _ => 0) (fun _ _ _ => 0)) := ⟨abe, 0, 0, afb, aad, abd, (fun _ _ => 0), (fun _ _ _ => 0), rfl, rfl, rfl, (hF_1_0), (fun i _ => ⟨0, 0, 0, rfl, by decide, rfl, by decide, rfl, by decide⟩), (by decide), (by decide), rfl, acX_0.symm⟩
  have hIMG : isIMG cI cZ cL cJ im zR zR [(xJ im cL 2 imf)] [(xo_3_iiiiiiiirrrrr i0 0 0 0 0 0 0 0 0 i0b1 i0b2 i0b3 i0b4 i0b5), (xI i0b1 cI 6 (fun _ => 0)), (xI i0b2 cI 6 (fun _ => 0)), (xI i0b3 cI 6 (fun _ => 0)), (xI i0b4 cI 6 (fun _ => 0)), (xI i0b5 cI 6 (fun _ => 0))] [(xo_3_iiiiiiiirrrrr i1 0 0 0 0 0 0 0 0 i1b1 i1b2 i1b3 i1b4 i1b5), (xI i1b1 cI 6 (fun _ => 0)), (xI i1b2 cI 6 (fun _ => 0)), (xI i1b3 cI 6 (fun _ => 0)), (xI i1b4 cI 6 (fun _ => 0)), (xI i1b5 cI 6 (fun _ => 0))] := ⟨imf, i0, 0, 0, 0, 0, 0, 0, 0, 0, i0b1, i0b2, i0b3, i0b4, i0b5, (fun _ => 0), (fun _ => 0), (fun _ => 0), (fun _ => 0), (fun _ => 0), i1, 0, 0, 0, 0, 0, 0, 0, 0, i1b1, i1b2, i1b3, i1b4, i1b5, (fun _ => 0), (fun _ => 0), (fun _ => 0), (fun _ => 0), (fun _ => 0), rfl, rfl, rfl, (hF_1_2), (hF_1_3), (by decide), (by decide), (by decide), (by decide), (by decide), (by decide), nr_z.symm, nr_z.symm⟩
  have hTRY : isTRY cI cZ cL cJ tr  [(xo_3_iiiiiiiirrrrr tr 0 0 0 0 0 0 0 0 qb1 qb2 qb3 qb4 qb5), (xI qb1 cI 6 (fun _ => 0)), (xI qb2 cI 6 (fun _ => 0)), (xI qb3 cI 6 (fun _ => 0)), (xI qb4 cI 6 (fun _ => 0)), (xI qb5 cI 6 (fun _ => 0))] := ⟨0, 0, 0, 0, 0, 0, 0, 0, qb1, qb2, qb3, qb4, qb5, (fun _ => 0), (fun _ => 0), (fun _ => 0), (fun _ => 0), (fun _ => 0), rfl⟩
  have hPLAY : isPLAY cI cZ cL cJ pl  [(xo_4_rri pl bo ou 0)] [(xo_3_iiiiiiiirrrrr bo 0 0 0 0 0 0 0 0 bb1 bb2 bb3 bb4 bb5), (xI bb1 cI 6 (fun _ => 0)), (xI bb2 cI 6 (fun _ => 0)), (xI bb3 cI 6 (fun _ => 0)), (xI bb4 cI 6 (fun _ => 0)), (xI bb5 cI 6 (fun _ => 0))] [(xo_3_iiiiiiiirrrrr ou 0 0 0 0 0 0 0 0 ob1 ob2 ob3 ob4 ob5), (xI ob1 cI 6 (fun _ => 0)), (xI ob2 cI 6 (fun _ => 0)), (xI ob3 cI 6 (fun _ => 0)), (xI ob4 cI 6 (fun _ => 0)), (xI ob5 cI 6 (fun _ => 0))] := ⟨bo, ou, 0, 0, 0, 0, 0, 0, 0, 0, 0, 0, 0, 0, 0, 0, 0, 0, 0, bb1, ob1, bb2, ob2, bb3, ob3, bb4, ob4, bb5, ob5, (fun _ => 0), (fun _ => 0), (fun _ => 0), (fun _ => 0), (fun _ => 0), (fun _ => 0), (fun _ => 0), (fun _ => 0), (fun _ => 0), (fun _ => 0), rfl, rfl, rfl⟩
  have hCAPS : isCAPS cI cZ cL cJ cs  [(xo_2_riiiii cs cbe 0 0 0 0 0)] [(xJ cbe cL 9 cfb)] (lvs cI 9 cad cbd (fun _ _ => 0) (fun _ _ _ => 0)) := ⟨cbe, 0, 0, 0, 0, 0, cfb, cad, cbd, (fun _ _ => 0), (fun _ _ _ => 0), rfl, rfl, rfl, (hF_1_1)⟩
  have hASKS : isASKS cI cZ cL cJ ak 0 (fun _ => 0) [(xo_1_riiiii ak tc 0 0 0 0 0)] [(xI tc cI 16 (fun _ => 0))] := ⟨tc, 0, 0, 0, 0, 0, (fun _ => 0), rfl, rfl, (by decide), rfl, rfl⟩
  exact ⟨_, hP.pm pX.symm, hD.pm pX.symm, ro, ta, no, ac, im, tr, pl, cs, ak, [(xo_7_rrrrrrrrrii x ro ta no ac im tr pl cs ak 0 0)], [(xo_5_rrr ro it la le)], [(xI la cI 8 fl)], [(xI le cI 8 (fun _ => 0))], [(xJ it cJ 8 (fun i => if i < 8 then some (it + 1 + i) else none)), (xI (it + 1 + 0) cI 40 (fun _ => 0)), (xI (it + 1 + 1) cI 40 (fun _ => 0)), (xI (it + 1 + 2) cI 40 (fun _ => 0)), (xI (it + 1 + 3) cI 40 (fun _ => 0)), (xI (it + 1 + 4) cI 40 (fun _ => 0)), (xI (it + 1 + 5) cI 40 (fun _ => 0)), (xI (it + 1 + 6) cI 40 (fun _ => 0)), (xI (it + 1 + 7) cI 40 (fun _ => 0))], [(xo_6_ririii ta bs 0 td 0 0 0)], [(xI bs cI 120 (fun _ => 0))], [(xo_3_iiiiiiiirrrrr td 0 0 0 0 0 0 0 0 tb1 tb2 tb3 tb4 tb5), (xI tb1 cI 6 (fun _ => 0)), (xI tb2 cI 6 (fun _ => 0)), (xI tb3 cI 6 (fun _ => 0)), (xI tb4 cI 6 (fun _ => 0)), (xI tb5 cI 6 (fun _ => 0))], [(xo_3_iiiiiiiirrrrr no 0 0 0 0 0 0 0 0 nb1 nb2 nb3 nb4 nb5), (xI nb1 cI 6 (fun _ => 0)), (xI nb2 cI 6 (fun _ => 0)), (xI nb3 cI 6 (fun _ => 0)), (xI nb4 cI 6 (fun _ => 0)), (xI nb5 cI 6 (fun _ => 0))], [(xo_0_rii ac abe 0 0)], [(xJ abe cL 24 afb)], lvs cI 24 aad abd (fun _ _ => 0) (fun _ _ _ => 0), [(xJ im cL 2 imf)], [(xo_3_iiiiiiiirrrrr i0 0 0 0 0 0 0 0 0 i0b1 i0b2 i0b3 i0b4 i0b5), (xI i0b1 cI 6 (fun _ => 0)), (xI i0b2 cI 6 (fun _ => 0)), (xI i0b3 cI 6 (fun _ => 0)), (xI i0b4 cI 6 (fun _ => 0)), (xI i0b5 cI 6 (fun _ => 0))], [(xo_3_iiiiiiiirrrrr i1 0 0 0 0 0 0 0 0 i1b1 i1b2 i1b3 i1b4 i1b5), (xI i1b1 cI 6 (fun _ => 0)), (xI i1b2 cI 6 (fun _ => 0)), (xI i1b3 cI 6 (fun _ => 0)), (xI i1b4 cI 6 (fun _ => 0)), (xI i1b5 cI 6 (fun _ => 0))], [(xo_3_iiiiiiiirrrrr tr 0 0 0 0 0 0 0 0 qb1 qb2 qb3 qb4 qb5), (xI qb1 cI 6 (fun _ => 0)), (xI qb2 cI 6 (fun _ => 0)), (xI qb3 cI 6 (fun _ => 0)), (xI qb4 cI 6 (fun _ => 0)), (xI qb5 cI 6 (fun _ => 0))], [(xo_4_rri pl bo ou 0)], [(xo_3_iiiiiiiirrrrr bo 0 0 0 0 0 0 0 0 bb1 bb2 bb3 bb4 bb5), (xI bb1 cI 6 (fun _ => 0)), (xI bb2 cI 6 (fun _ => 0)), (xI bb3 cI 6 (fun _ => 0)), (xI bb4 cI 6 (fun _ => 0)), (xI bb5 cI 6 (fun _ => 0))], [(xo_3_iiiiiiiirrrrr ou 0 0 0 0 0 0 0 0 ob1 ob2 ob3 ob4 ob5), (xI ob1 cI 6 (fun _ => 0)), (xI ob2 cI 6 (fun _ => 0)), (xI ob3 cI 6 (fun _ => 0)), (xI ob4 cI 6 (fun _ => 0)), (xI ob5 cI 6 (fun _ => 0))], [(xo_2_riiiii cs cbe 0 0 0 0 0)], [(xJ cbe cL 9 cfb)], lvs cI 9 cad cbd (fun _ _ => 0) (fun _ _ _ => 0), [(xo_1_riiiii ak tc 0 0 0 0 0)], [(xI tc cI 16 (fun _ => 0))], rfl, hXO, hROWS, hTAPE, hNOW, hACTS, hIMG, hTRY, hPLAY, hCAPS, hASKS⟩
theorem n_X7w (l : Launch) (dC : Nat → ClassId) (dI : Nat → Nat → Nat) (cI cZ cL cJ : ClassId) (sz : Nat) (x : Nat)  : Met l yX7_init wsX7_init ({ frames := 3, cells := 262, slots := 2262, locals := 61 }) (va_Pc [.ref x] (fun U => U.heap.size = sz ∧ va_P (dC, dI) vwCl [(x, .inr (7, [.null, .null, .null, .null, .null, .null, .null, .null, .null, .int 0, .int 0]))] U.heap ∧ va_K (dC, dI) vwCl [(cI, .int), (cZ, .boolean), (cL, .object RX3), (cJ, .array .int)] U ∧ va_D (fun _ => True) [(x, .inr (7, [.null, .null, .null, .null, .null, .null, .null, .null, .null, .int 0, .int 0]))] ∧ nw_ok cI cJ U)) (va_Qv (fun (_ : Unit) => True) (fun (_ : Unit) t => ∃ (wx : va_W), va_P (dC, dI) vwCl (([] : va_W) ++ wx) t.heap ∧ va_D (va_A [(x, .inr (7, [.null, .null, .null, .null, .null, .null, .null, .null, .null, .int 0, .int 0]))] sz) (([] : va_W) ++ wx) ∧ ISX cI cZ cL cJ x (fun _ => -1) (fun _ => 0) 0 (fun _ => 0) 0 zR 0 (fun _ => zR) zR zR 0 (fun _ => 0) 0 (fun _ _ => 0) wx) (va_A [(x, .inr (7, [.null, .null, .null, .null, .null, .null, .null, .null, .null, .int 0, .int 0]))] sz)) 262 2262 (va_A [(x, .inr (7, [.null, .null, .null, .null, .null, .null, .null, .null, .null, .int 0, .int 0]))] sz) := by
  refine Met.cq (n_X7_init l dC dI cI cZ cL cJ sz x) (fun _ _ h => h) ?_ (fun _ h => h)
  rintro a st o t - ⟨⟨u, e1, e2, hb⟩, hF⟩
  exact ⟨⟨u, e1, e2, pkX hb⟩, hF⟩
set_option maxHeartbeats 8000000 in
set_option maxRecDepth 100000 in
theorem bX8_el {dC : Nat → ClassId} {dI : Nat → Nat → Nat} {cI cZ cL cJ : ClassId} {sz mo : Nat} {t : State} {P : Prop} (h : bX8 dC dI cI cZ cL cJ sz mo t) (k : ∀ (m_la : Nat) (m_sz : Nat) (m_it : Nat) (m_st : Nat) (m_mv : Nat) (m_tp : Nat) (m_rd : Nat) (m_ac : Nat) (m_as : Nat) (m_wo : Nat) (m_ik : Nat) (m_ke : Nat) (m_tr : Nat) (fz : Nat → Int32), (va_P (dC, dI) vwCl [(xo_8_rrriirrriiiiiiirrirrrrri mo m_la m_sz m_it 0 0 m_st m_mv m_tp 0 0 0 0 0 0 0 m_rd m_ac 0 m_as m_wo m_ik m_ke m_tr 0), (xI m_la cI 8 (fun _ => 0)), (xI m_sz cI 8 fz), (xI m_it cI 320 (fun _ => 0)), (xI m_st cI 38 (fun _ => 0)), (xI m_mv cI 40 (fun _ => 0)), (xI m_tp cI 120 (fun _ => 0)), (xI m_rd cI 38 (fun _ => 0)), (xI m_ac cI 912 (fun _ => 0)), (xI m_as cI 38 (fun _ => 0)), (xI m_wo cI 16 (fun _ => 0)), (xI m_ik cZ 2 (fun _ => 0)), (xI m_ke cI 76 (fun _ => 0)), (xI m_tr cI 16 (fun _ => 0))] t.heap) → (va_D (va_A [(mo, .inr (8, [.null, .null, .null, .int 0, .int 0, .null, .null, .null, .int 0, .int 0, .int 0, .int 0, .int 0, .int 0, .int 0, .null, .null, .int 0, .null, .null, .null, .null, .null, .int 0]))] sz) [(xo_8_rrriirrriiiiiiirrirrrrri mo m_la m_sz m_it 0 0 m_st m_mv m_tp 0 0 0 0 0 0 0 m_rd m_ac 0 m_as m_wo m_ik m_ke m_tr 0), (xI m_la cI 8 (fun _ => 0)), (xI m_sz cI 8 fz), (xI m_it cI 320 (fun _ => 0)), (xI m_st cI 38 (fun _ => 0)), (xI m_mv cI 40 (fun _ => 0)), (xI m_tp cI 120 (fun _ => 0)), (xI m_rd cI 38 (fun _ => 0)), (xI m_ac cI 912 (fun _ => 0)), (xI m_as cI 38 (fun _ => 0)), (xI m_wo cI 16 (fun _ => 0)), (xI m_ik cZ 2 (fun _ => 0)), (xI m_ke cI 76 (fun _ => 0)), (xI m_tr cI 16 (fun _ => 0))]) → ((∀ j : Nat, j < 8 → fz j = -1)) → P) : P := Exists.elim h (fun m_la h => Exists.elim h (fun m_sz h => Exists.elim h (fun m_it h => Exists.elim h (fun m_st h => Exists.elim h (fun m_mv h => Exists.elim h (fun m_tp h => Exists.elim h (fun m_rd h => Exists.elim h (fun m_ac h => Exists.elim h (fun m_as h => Exists.elim h (fun m_wo h => Exists.elim h (fun m_ik h => Exists.elim h (fun m_ke h => Exists.elim h (fun m_tr h => Exists.elim h (fun fz h => k m_la m_sz m_it m_st m_mv m_tp m_rd m_ac m_as m_wo m_ik m_ke m_tr fz h.1 h.2.1 h.2.2))))))))))))))
set_option maxHeartbeats 8000000 in
set_option maxRecDepth 100000 in
theorem pkM {dC : Nat → ClassId} {dI : Nat → Nat → Nat} {cI cZ cL cJ : ClassId} {sz mo : Nat} {t : State} (h : bX8 dC dI cI cZ cL cJ sz mo t) : ∃ w9 : va_W, va_P (dC, dI) vwCl w9 t.heap ∧ va_D (va_A [(mo, .inr (8, [.null, .null, .null, .int 0, .int 0, .null, .null, .null, .int 0, .int 0, .int 0, .int 0, .int 0, .int 0, .int 0, .null, .null, .int 0, .null, .null, .null, .null, .null, .int 0]))] sz) w9 ∧ ISM cI cZ cL cJ mo (fun _ => -1) (fun _ => 0) 0 (fun _ => 0) 0 zR 0 (fun _ => zR) zR zR 0 (fun _ => 0) 0 (fun _ _ => 0) w9 := by
  refine bX8_el h (fun m_la m_sz m_it m_st m_mv m_tp m_rd m_ac m_as m_wo m_ik m_ke m_tr fz hP hD hF_2_0 => ?_)
  have eC : ([[(xo_8_rrriirrriiiiiiirrirrrrri mo m_la m_sz m_it 0 0 m_st m_mv m_tp 0 0 0 0 0 0 0 m_rd m_ac 0 m_as m_wo m_ik m_ke m_tr 0)], [(xI m_la cI 8 (fun _ => 0))], [(xI m_sz cI 8 fz)], [(xI m_it cI 320 (fun _ => 0))], [(xI m_st cI 38 (fun _ => 0))], [(xI m_mv cI 40 (fun _ => 0))], [(xI m_tp cI 120 (fun _ => 0))], [(xI m_rd cI 38 (fun _ => 0))], [(xI m_ac cI 912 (fun _ => 0))], [(xI m_as cI 38 (fun _ => 0))], [(xI m_wo cI 16 (fun _ => 0))], [(xI m_ik cZ 2 (fun _ => 0))], [(xI m_ke cI 76 (fun _ => 0))], [(xI m_tr cI 16 (fun _ => 0))]] : List va_W).flatten = [(xo_8_rrriirrriiiiiiirrirrrrri mo m_la m_sz m_it 0 0 m_st m_mv m_tp 0 0 0 0 0 0 0 m_rd m_ac 0 m_as m_wo m_ik m_ke m_tr 0), (xI m_la cI 8 (fun _ => 0)), (xI m_sz cI 8 fz), (xI m_it cI 320 (fun _ => 0)), (xI m_st cI 38 (fun _ => 0)), (xI m_mv cI 40 (fun _ => 0)), (xI m_tp cI 120 (fun _ => 0)), (xI m_rd cI 38 (fun _ => 0)), (xI m_ac cI 912 (fun _ => 0)), (xI m_as cI 38 (fun _ => 0)), (xI m_wo cI 16 (fun _ => 0)), (xI m_ik cZ 2 (fun _ => 0)), (xI m_ke cI 76 (fun _ => 0)), (xI m_tr cI 16 (fun _ => 0))] := (by simp only [List.flatten_cons, List.flatten_nil, List.append_nil, List.cons_append, List.nil_append, List.append_assoc])
  rw [← eC] at hP hD
  have pX : ([[(xo_8_rrriirrriiiiiiirrirrrrri mo m_la m_sz m_it 0 0 m_st m_mv m_tp 0 0 0 0 0 0 0 m_rd m_ac 0 m_as m_wo m_ik m_ke m_tr 0)], [(xI m_la cI 8 (fun _ => 0))], [(xI m_sz cI 8 fz)], [(xI m_it cI 320 (fun _ => 0))], [(xI m_st cI 38 (fun _ => 0))], [(xI m_mv cI 40 (fun _ => 0))], [(xI m_tp cI 120 (fun _ => 0))], [(xI m_rd cI 38 (fun _ => 0))], [(xI m_ac cI 912 (fun _ => 0))], [(xI m_as cI 38 (fun _ => 0))], [(xI m_wo cI 16 (fun _ => 0))], [(xI m_ik cZ 2 (fun _ => 0))], [(xI m_ke cI 76 (fun _ => 0))], [(xI m_tr cI 16 (fun _ => 0))]] : List va_W).flatten.Perm ([[(xo_8_rrriirrriiiiiiirrirrrrri mo m_la m_sz m_it 0 0 m_st m_mv m_tp 0 0 0 0 0 0 0 m_rd m_ac 0 m_as m_wo m_ik m_ke m_tr 0)], [(xI m_la cI 8 (fun _ => 0))], [(xI m_sz cI 8 fz)], [(xI m_it cI 320 (fun _ => 0))], [(xI m_st cI 38 (fun _ => 0))], [(xI m_mv cI 40 (fun _ => 0))], [(xI m_tp cI 120 (fun _ => 0))], [(xI m_rd cI 38 (fun _ => 0))], [(xI m_ac cI 912 (fun _ => 0))], [(xI m_as cI 38 (fun _ => 0))], [(xI m_wo cI 16 (fun _ => 0))], [(xI m_ik cZ 2 (fun _ => 0))], [(xI m_ke cI 76 (fun _ => 0))], [(xI m_tr cI 16 (fun _ => 0))]] : List va_W).flatten := (pmB [0, 1, 2, 3, 4, 5, 6, 7, 8, 9, 10, 11, 12, 13] 14 rfl (by decide +kernel) rfl).flatten
  have hMODEL : isMODEL cI cZ cL cJ mo (fun _ => -1) (fun _ => 0) 0 (fun _ => 0) 0 zR 0 (fun _ => zR) zR zR 0 (fun _ => 0) 0 (fun _ _ => 0) [(xo_8_rrriirrriiiiiiirrirrrrri mo m_la m_sz m_it 0 0 m_st m_mv m_tp 0 0 0 0 0 0 0 m_rd m_ac 0 m_as m_wo m_ik m_ke m_tr 0)] [(xI m_la cI 8 (fun _ => 0))] [(xI m_sz cI 8 fz)] [(xI m_it cI 320 (fun _ => 0))] [(xI m_st cI 38 (fun _ => 0))] [(xI m_mv cI 40 (fun _ => 0))] [(xI m_tp cI 120 (fun _ => 0))] [(xI m_rd cI 38 (fun _ => 0))] [(xI m_ac cI 912 (fun _ => 0))] [(xI m_as cI 38 (fun _ => 0))] [(xI m_wo cI 16 (fun _ => 0))] [(xI m_ik cZ 2 (fun _ => 0))] [(xI m_ke cI 76 (fun _ => 0))] [(xI m_tr cI 16 (fun _ => 0))] := ⟨(fun k => [m_la, m_sz, m_it, m_st, m_mv, m_tp, m_rd, m_ac, m_as, m_wo, m_ik, m_ke, m_tr].getD k 0), (fun k => [0, 0, 0, 0, 0, 0, 0].getD k 0), (fun k => [(fun _ => 0), fz, (fun _ => 0), (fun _ => 0), (fun _ => 0), (fun _ => 0), (fun _ => 0), (fun _ => 0), (fun _ => 0), (fun _ => 0), (fun _ => 0), (fun _ => 0), (fun _ => 0)].getD k (fun _ => 0)), 0, 0, 0, 0, 0, 0, 0, rfl, rfl, rfl, rfl, rfl, rfl, rfl, rfl, rfl, rfl, rfl, rfl, rfl, rfl, (⟨rfl, rfl, rfl, by decide, by decide, by decide, ⟨0, by decide, by decide, rfl⟩, fun s h => absurd h (Nat.not_lt_zero s)⟩), (fun h => absurd rfl h), (by decide), (fun _ => ⟨rfl, rfl⟩), (okA_0 _), (by decide), (fun r _ h => absurd rfl h), (fun _ => ⟨rfl, rfl⟩), (by decide), (by decide), (fun j hj => Or.inl (hF_2_0 j hj)), (fun j hj h => absurd (hF_2_0 j hj) h), (mbl_0 hF_2_0), (mbn_0 hF_2_0), rfl, rfl, rfl, m38_z.symm, rfl, acM_0.symm, imM_z.symm, imM_z.symm, rfl, rfl, rfl, itM_z.symm⟩
  exact ⟨_, hP.pm pX.symm, hD.pm pX.symm, [(xo_8_rrriirrriiiiiiirrirrrrri mo m_la m_sz m_it 0 0 m_st m_mv m_tp 0 0 0 0 0 0 0 m_rd m_ac 0 m_as m_wo m_ik m_ke m_tr 0)], [(xI m_la cI 8 (fun _ => 0))], [(xI m_sz cI 8 fz)], [(xI m_it cI 320 (fun _ => 0))], [(xI m_st cI 38 (fun _ => 0))], [(xI m_mv cI 40 (fun _ => 0))], [(xI m_tp cI 120 (fun _ => 0))], [(xI m_rd cI 38 (fun _ => 0))], [(xI m_ac cI 912 (fun _ => 0))], [(xI m_as cI 38 (fun _ => 0))], [(xI m_wo cI 16 (fun _ => 0))], [(xI m_ik cZ 2 (fun _ => 0))], [(xI m_ke cI 76 (fun _ => 0))], [(xI m_tr cI 16 (fun _ => 0))], rfl, hMODEL⟩
theorem n_X8w (l : Launch) (dC : Nat → ClassId) (dI : Nat → Nat → Nat) (cI cZ cL cJ : ClassId) (sz : Nat) (mo : Nat)  : Met l yX8_init wsX8_init ({ frames := 1, cells := 13, slots := 1632, locals := 20 }) (va_Pc [.ref mo] (fun U => U.heap.size = sz ∧ va_P (dC, dI) vwCl [(mo, .inr (8, [.null, .null, .null, .int 0, .int 0, .null, .null, .null, .int 0, .int 0, .int 0, .int 0, .int 0, .int 0, .int 0, .null, .null, .int 0, .null, .null, .null, .null, .null, .int 0]))] U.heap ∧ va_K (dC, dI) vwCl [(cI, .int), (cZ, .boolean), (cL, .object RX3), (cJ, .array .int)] U ∧ va_D (fun _ => True) [(mo, .inr (8, [.null, .null, .null, .int 0, .int 0, .null, .null, .null, .int 0, .int 0, .int 0, .int 0, .int 0, .int 0, .int 0, .null, .null, .int 0, .null, .null, .null, .null, .null, .int 0]))])) (va_Qv (fun (_ : Unit) => True) (fun (_ : Unit) t => ∃ (wm : va_W), va_P (dC, dI) vwCl (([] : va_W) ++ wm) t.heap ∧ va_D (va_A [(mo, .inr (8, [.null, .null, .null, .int 0, .int 0, .null, .null, .null, .int 0, .int 0, .int 0, .int 0, .int 0, .int 0, .int 0, .null, .null, .int 0, .null, .null, .null, .null, .null, .int 0]))] sz) (([] : va_W) ++ wm) ∧ ISM cI cZ cL cJ mo (fun _ => -1) (fun _ => 0) 0 (fun _ => 0) 0 zR 0 (fun _ => zR) zR zR 0 (fun _ => 0) 0 (fun _ _ => 0) wm) (va_A [(mo, .inr (8, [.null, .null, .null, .int 0, .int 0, .null, .null, .null, .int 0, .int 0, .int 0, .int 0, .int 0, .int 0, .int 0, .null, .null, .int 0, .null, .null, .null, .null, .null, .int 0]))] sz)) 13 1632 (va_A [(mo, .inr (8, [.null, .null, .null, .int 0, .int 0, .null, .null, .null, .int 0, .int 0, .int 0, .int 0, .int 0, .int 0, .int 0, .null, .null, .int 0, .null, .null, .null, .null, .null, .int 0]))] sz) := by
  refine Met.cq (n_X8_init l dC dI cI cZ cL cJ sz mo) (fun _ _ h => h) ?_ (fun _ h => h)
  rintro a st o t - ⟨⟨u, e1, e2, hb⟩, hF⟩
  exact ⟨⟨u, e1, e2, pkM hb⟩, hF⟩
set_option maxHeartbeats 8000000 in
set_option maxRecDepth 100000 in
theorem whole_start {p : Program} {e : Env} {s : State} {m : MethodId} {below : List Frame} {meth : Method} {c : Code} (l : Launch) {b L : Nat} {xs : Nat → Int32} (hL : L ≤ 3072) (C0 : lw_At p s m meth c b L xs) : W p l e room_1 s m #[Value.ref b] below meth c s.heap [] 0 0 (lw_Z below #[Value.ref b] s) (entryFrame m ([Value.ref b] : List Value).toArray 4) := by
  obtain ⟨hx, hb, hr, hml, hown, hts0, hX, hbl, hlocks, hgv⟩ := id C0
  have hown : s.vm.findClass RL = some m.cls := hown
  have hts : ∀ w ∈ wsL_law, w.before #[Value.ref b] s = true := fun w h => hts0 w (wsL_law_in w h)
  obtain ⟨A, hAd⟩ : ∃ A : Nat → Prop, A = fun q => s.heap.size ≤ q := ⟨_, rfl⟩
  have hA : ∀ q : Nat, s.heap.size ≤ q → A q := fun q h => by rw [hAd]; exact h
  have hbA : ¬ A b := by rw [hAd]; exact Nat.not_le.mpr hbl
  have hst : stt A s s.heap := stt_start hgv hts0 (fun a ha => by rw [hAd]; exact Nat.not_le.mpr ha)
  obtain ⟨c0, iS0, hKn0⟩ := u_known (C := RX0) (T := TX0) (N := 3) (n := 3) hts0 jnX0 (hts0 (.instantiable RX0 3) (by decide +kernel))
  obtain ⟨c1, iS1, hKn1⟩ := u_known (C := RX1) (T := TX1) (N := 6) (n := 6) hts0 jnX1 (hts0 (.instantiable RX1 6) (by decide +kernel))
  obtain ⟨c2, iS2, hKn2⟩ := u_known (C := RX2) (T := TX2) (N := 6) (n := 6) hts0 jnX2 (hts0 (.instantiable RX2 6) (by decide +kernel))
  obtain ⟨c3, iS3, hKn3⟩ := u_known (C := RX3) (T := TX3) (N := 13) (n := 13) hts0 jnX3 (hts0 (.instantiable RX3 13) (by decide +kernel))
  obtain ⟨c4, iS4, hKn4⟩ := u_known (C := RX4) (T := TX4) (N := 3) (n := 3) hts0 jnX4 (hts0 (.instantiable RX4 3) (by decide +kernel))
  obtain ⟨c5, iS5, hKn5⟩ := u_known (C := RX5) (T := TX5) (N := 3) (n := 3) hts0 jnX5 (hts0 (.instantiable RX5 3) (by decide +kernel))
  obtain ⟨c6, iS6, hKn6⟩ := u_known (C := RX6) (T := TX6) (N := 6) (n := 6) hts0 jnX6 (hts0 (.instantiable RX6 6) (by decide +kernel))
  obtain ⟨c7, iS7, hKn7⟩ := u_known (C := RX7) (T := TX7) (N := 11) (n := 11) hts0 jnX7 (hts0 (.instantiable RX7 11) (by decide +kernel))
  obtain ⟨c8, iS8, hKn8⟩ := u_known (C := RX8) (T := TX8) (N := 24) (n := 24) hts0 jnX8 (hts0 (.instantiable RX8 24) (by decide +kernel))
  obtain ⟨dC, dI, hKc⟩ : ∃ (dC : Nat → ClassId) (dI : Nat → Nat → Nat), ∀ (k : Nat) (q : vw_C), vwCl[k]? = some q → u_Kn s q.1 q.2.1 q.2.2 (dC k) (dI k) := by
    refine ⟨fun k => match k with | 0 => c0 | 1 => c1 | 2 => c2 | 3 => c3 | 4 => c4 | 5 => c5 | 6 => c6 | 7 => c7 | _ => c8, fun k => match k with | 0 => iS0 | 1 => iS1 | 2 => iS2 | 3 => iS3 | 4 => iS4 | 5 => iS5 | 6 => iS6 | 7 => iS7 | _ => iS8, ?_⟩
    intro k q hq
    match k, hq with
    | 0, hq => cases hq; exact hKn0
    | 1, hq => cases hq; exact hKn1
    | 2, hq => cases hq; exact hKn2
    | 3, hq => cases hq; exact hKn3
    | 4, hq => cases hq; exact hKn4
    | 5, hq => cases hq; exact hKn5
    | 6, hq => cases hq; exact hKn6
    | 7, hq => cases hq; exact hKn7
    | 8, hq => cases hq; exact hKn8
    | k + 9, hq => simp [vwCl] at hq
  obtain ⟨cI, kI, coI, fI, gI, tI⟩ := Cond.arrayClass_spec (hts0 (.arrayClass .int) (by decide +kernel))
  obtain ⟨cZ, kZ, coZ, fZ, gZ, tZ⟩ := Cond.arrayClass_spec (hts0 (.arrayClass .boolean) (by decide +kernel))
  have hO := hts0 (.arrayOver (.object RX3)) (by decide +kernel)
  obtain ⟨coL, cL, kL, fL1, fL2, gL, tL, fL⟩ := Cond.arrayOver_spec hO
  obtain ⟨coJ, cJ, kJ, fJ1, gJ, tJ, fJ⟩ := nw_over (hts0 (.arrayOver (.array .int)) (by decide +kernel))
  have eJ : coJ = cI := Option.some.inj (fJ1.symm.trans fI)
  subst eJ
  have hK : va_K (dC, dI) vwCl [(coJ, .int), (cZ, .boolean), (cL, .object RX3), (cJ, .array .int)] s := by
    refine ⟨hKc, fun k q h => ?_⟩
    match k, h with
    | 0, h => cases h; exact ⟨fun n z => ⟨fun k h => (by cases h), kI, gI, coI, tI⟩, fI⟩
    | 1, h => cases h; exact ⟨fun n z => ⟨fun k h => (by cases h), kZ, gZ, coZ, tZ⟩, fZ⟩
    | 2, h => cases h; exact ⟨fun n z => ⟨fun k h => (by cases h), kL, gL, coL, tL⟩, ⟨kL, coL, gL, tL, fL1, fL⟩⟩
    | 3, h => cases h; exact ⟨fun n z => ⟨fun k h => (by cases h), kJ, gJ, coJ, tJ⟩, fJ⟩
    | k + 4, h => simp at h
  generalize coJ = cI at *
  have hN : nw_ok cI cJ s := ⟨va_AO.of hO, ⟨kJ, gJ, tJ⟩, va_Nw.of rfl (hts0 (.methodLinkNest RX7 18 yX6_init "MillTalk") (by decide +kernel)), va_Nw.of rfl (hts0 (.methodLinkNest RX6 17 yX3_init "MillTalk") (by decide +kernel)), va_Nw.of rfl (hts0 (.methodLinkNest RX7 25 yX3_init "MillTalk") (by decide +kernel)), va_Nw.of rfl (hts0 (.methodLinkNest RX0 15 yX3_init "MillTalk") (by decide +kernel)), va_Nw.of rfl (hts0 (.methodLinkNest RX7 46 yX4_init "MillTalk") (by decide +kernel)), va_Nw.of rfl (hts0 (.methodLinkNest RX4 9 yX3_init "MillTalk") (by decide +kernel)), va_Nw.of rfl (hts0 (.methodLinkNest RX2 17 yX3_init "MillTalk") (by decide +kernel)), va_Nw.of rfl (hts0 (.methodLinkNest RX7 60 yX1_init "MillTalk") (by decide +kernel))⟩
  have hS : va_S A s.heap s.heap [] := va_S.rf
  have hP : va_P (dC, dI) vwCl [] s.heap := fun k q h => by simp at h
  have hD : va_D A [] := ⟨fun i j p q h => by simp at h, fun k q h => by simp at h⟩
  have hl := lv_entry ([.ref b]) (n := 4) (Nat.le_of_ble_eq_true rfl)
  rw [lg_entry_eq]
  generalize (lg_sl ([.ref b]) ++ List.replicate (4 - (lg_sl ([.ref b])).length) Slot.unset).toArray = ls at hl ⊢
  have hl : lv_has ls 4 [(0, .ref b)] := hl
  refine va_new (ci := 7) (fs := [.null, .null, .null, .null, .null, .null, .null, .null, .null, .int 0, .int 0]) (C := RX7) (T := TX7) (N := 11) hx hb hts inlX7 tyX7 tyX7_ok hown (hts (.classLink RL 7 RX7) (by decide +kernel)) (hts (.instantiable RX7 11) (by decide +kernel)) (hts (.initialized RX7) (by decide +kernel)) hK hP hD hS hA rfl (fun j hj => by rcases (show j = 0 ∨ j = 1 ∨ j = 2 ∨ j = 3 ∨ j = 4 ∨ j = 5 ∨ j = 6 ∨ j = 7 ∨ j = 8 ∨ j = 9 ∨ j = 10 by omega) with rfl | rfl | rfl | rfl | rfl | rfl | rfl | rfl | rfl | rfl | rfl <;> rfl) (Nat.le_of_ble_eq_true rfl) (Nat.le_of_ble_eq_true rfl) dL_law_0 (fun q_1 H hP hD hS => ?_)
  have hP : va_P (dC, dI) vwCl [(q_1, .inr (7, [.null, .null, .null, .null, .null, .null, .null, .null, .null, .int 0, .int 0]))] H := hP
  have hD := dto hP hD
  refine W.widen (k := 1) (n := 11) (Nat.le_of_ble_eq_true rfl) (Nat.le_of_ble_eq_true rfl) ?_
  refine lv_dup hx hb dL_law_3 rfl ?_
  have hc_2 := cutW (wc := [(q_1, .inr (7, [.null, .null, .null, .null, .null, .null, .null, .null, .null, .int 0, .int 0]))]) hP hD hS hA [0] (by decide +kernel) rfl
  refine va_callv (va_runI (As := []) (rest := [.ref q_1]) ⟨hx, hb, hml, hown, hts⟩ (n_X7w l dC dI cI cZ cL cJ H.size q_1 ) (cwI 0 hts gL_law_X7_init rfl rfl rfl (hts (.initialized RX7) (by decide +kernel)) (hts (.methodLink RL 9 yX7_init) (by decide +kernel)) (hts (.instanceMethod yX7_init) (by decide +kernel)) rfl (by decide +kernel) ⟨Nat.le_of_ble_eq_true rfl, Nat.le_of_ble_eq_true rfl⟩) ⟨fun a U g mk q => by obtain ⟨q0, q1, qP, qK, qD, qN⟩ := q; exact ⟨q0, q1, qP, va_K.moved (u := U) (U := U.calling g mk a) (Vm.Alike.refl U.vm) qK, qD, nw_same rfl qN⟩, fun U hU hW => ⟨rfl, by rw [hU], by rw [hU]; exact hc_2.1, va_K.moved hW.alike hK, hc_2.2.1.weaken (fun _ _ _ _ => trivial), nw_warm hW hN⟩⟩ rfl rfl hl.1 rfl (lv_room (Nat.le_of_ble_eq_true rfl)) dL_law_4 ⟨Nat.le_of_ble_eq_true rfl, Nat.le_of_ble_eq_true rfl⟩) hS (fun q _ h => hc_2.2.2 q h) hc_2.2.2 (fun u_2 t_2 H1 locs ht hvm h_2 hB hz1 hk1 hS => ?_)
  refine xl_1_3 hB (fun wx_2 hP1 hD1 hF_2_0 => ?_)
  clear hB
  rw [ht] at hP1
  obtain ⟨hP, hD⟩ := va_join (wr := []) (w1 := (([] : va_W) ++ wx_2)) hP hD [0] [] rfl rfl (by decide +kernel) (by decide +kernel) hk1 hc_2.2.2 hP1 hD1
  have hP := tl1P hP
  have hD := tl1D hD
  generalize H1 = H at hP hS ⊢
  have hP : va_P (dC, dI) vwCl (([] : va_W) ++ wx_2) H := hP
  have hD := dto hP hD
  refine W.widen (k := 263) (n := 2273) (Nat.le_of_ble_eq_true rfl) (Nat.le_of_ble_eq_true rfl) ?_
  refine lv_astore_n (lv' := [(1, .ref q_1), (0, .ref b)]) hx hb dL_law_7 rfl hl (by decide) rfl (fun ls hl => ?_)
  refine va_new (ci := 8) (fs := [.null, .null, .null, .int 0, .int 0, .null, .null, .null, .int 0, .int 0, .int 0, .int 0, .int 0, .int 0, .int 0, .null, .null, .int 0, .null, .null, .null, .null, .null, .int 0]) (C := RX8) (T := TX8) (N := 24) hx hb hts inlX8 tyX8 tyX8_ok hown (hts (.classLink RL 10 RX8) (by decide +kernel)) (hts (.instantiable RX8 24) (by decide +kernel)) (hts (.initialized RX8) (by decide +kernel)) hK hP hD hS hA rfl (fun j hj => by rcases (show j = 0 ∨ j = 1 ∨ j = 2 ∨ j = 3 ∨ j = 4 ∨ j = 5 ∨ j = 6 ∨ j = 7 ∨ j = 8 ∨ j = 9 ∨ j = 10 ∨ j = 11 ∨ j = 12 ∨ j = 13 ∨ j = 14 ∨ j = 15 ∨ j = 16 ∨ j = 17 ∨ j = 18 ∨ j = 19 ∨ j = 20 ∨ j = 21 ∨ j = 22 ∨ j = 23 by omega) with rfl | rfl | rfl | rfl | rfl | rfl | rfl | rfl | rfl | rfl | rfl | rfl | rfl | rfl | rfl | rfl | rfl | rfl | rfl | rfl | rfl | rfl | rfl | rfl <;> rfl) (Nat.le_of_ble_eq_true rfl) (Nat.le_of_ble_eq_true rfl) dL_law_8 (fun q_3 H hP hD hS => ?_)
  have hP := va_P.swap hP
  have hD := va_D.swap hD
  have hP : va_P (dC, dI) vwCl (([(q_3, .inr (8, [.null, .null, .null, .int 0, .int 0, .null, .null, .null, .int 0, .int 0, .int 0, .int 0, .int 0, .int 0, .int 0, .null, .null, .int 0, .null, .null, .null, .null, .null, .int 0]))] : va_W) ++ wx_2) H := hP
  have hD := dto hP hD
  refine W.widen (k := 264) (n := 2297) (Nat.le_of_ble_eq_true rfl) (Nat.le_of_ble_eq_true rfl) ?_
  refine lv_dup hx hb dL_law_11 rfl ?_
  have hc_4 := cutX (wc := [(q_3, .inr (8, [.null, .null, .null, .int 0, .int 0, .null, .null, .null, .int 0, .int 0, .int 0, .int 0, .int 0, .int 0, .int 0, .null, .null, .int 0, .null, .null, .null, .null, .null, .int 0]))]) hP hD hS hA [0] (by decide +kernel) rfl
  refine va_callv (va_runI (As := []) (rest := [.ref q_3]) ⟨hx, hb, hml, hown, hts⟩ (n_X8w l dC dI cI cZ cL cJ H.size q_3 ) (cwI 0 hts gL_law_X8_init rfl rfl rfl (hts (.initialized RX8) (by decide +kernel)) (hts (.methodLink RL 12 yX8_init) (by decide +kernel)) (hts (.instanceMethod yX8_init) (by decide +kernel)) rfl (by decide +kernel) ⟨Nat.le_of_ble_eq_true rfl, Nat.le_of_ble_eq_true rfl⟩) ⟨fun a U g mk q => by obtain ⟨q0, q1, qP, qK, qD⟩ := q; exact ⟨q0, q1, qP, va_K.moved (u := U) (U := U.calling g mk a) (Vm.Alike.refl U.vm) qK, qD⟩, fun U hU hW => ⟨rfl, by rw [hU], by rw [hU]; exact hc_4.1, va_K.moved hW.alike hK, hc_4.2.1.weaken (fun _ _ _ _ => trivial)⟩⟩ rfl rfl hl.1 rfl (lv_room (Nat.le_of_ble_eq_true rfl)) dL_law_12 ⟨Nat.le_of_ble_eq_true rfl, Nat.le_of_ble_eq_true rfl⟩) hS (fun q _ h => hc_4.2.2 q h) hc_4.2.2 (fun u_4 t_4 H1 locs ht hvm h_4 hB hz1 hk1 hS => ?_)
  refine xl_1_3 hB (fun wm_4 hP1 hD1 hF_4_0 => ?_)
  clear hB
  rw [ht] at hP1
  obtain ⟨hP, hD⟩ := va_joinQ (wr := []) (w1 := (([] : va_W) ++ wm_4)) hP hD [0] [] rfl rfl (by decide +kernel) (by decide +kernel) hk1 hc_4.2.2 hP1 hD1
  have hP := tl2P hP
  have hD := tl2D hD
  generalize H1 = H at hP hS ⊢
  have hP : va_P (dC, dI) vwCl (([] : va_W) ++ (wm_4 ++ wx_2)) H := hP
  have hD := dto hP hD
  refine W.widen (k := 277) (n := 3929) (Nat.le_of_ble_eq_true rfl) (Nat.le_of_ble_eq_true rfl) ?_
  refine lv_astore_n (lv' := [(2, .ref q_3), (1, .ref q_1), (0, .ref b)]) hx hb dL_law_15 rfl hl (by decide) rfl (fun ls hl => ?_)
  refine lv_iconst (v := 0) hx hb dL_law_16 (by decide) ?_
  refine lv_istore_n (lv' := [(3, .int 0), (2, .ref q_3), (1, .ref q_1), (0, .ref b)]) hx hb dL_law_17 rfl hl (by decide) rfl (fun ls hl => ?_)
  have hIX := hF_2_0
  have hIM := hF_4_0
  have hP : va_P (dC, dI) vwCl (wx_2 ++ wm_4) H := va_P.pm (X := wm_4 ++ wx_2) hP List.perm_append_comm
  have hD : va_D A (wx_2 ++ wm_4) := va_D.pm (X := wm_4 ++ wx_2) hD List.perm_append_comm
  have hC : LCx p s m meth c b L xs dC dI cI cZ cL cJ A := ⟨hx, hb, hr, hml, hown, hts, hX, hbl, hlocks, hAd, hA, hbA, hK, hst, hL⟩
  refine lp_go (σ := va_W × va_W) (LIv dC dI cI cZ cL cJ A s b q_1 q_3) (L / 6) ?_ ?_ 0 (Nat.zero_le _) (wx_2, wm_4) ⟨⟨_, _, _, _, _, _, _, _, _, _, _, _, _, _, okS_0, hIX, hIM⟩, hP, hD, hS, lv_sub hl [0, 1, 2, 3] rfl⟩
  · rintro i ⟨wx, wm⟩ H locs ls hi hv ih
    exact lw_step hC (by omega) hv ih
  · rintro ⟨wx, wm⟩ H locs ls ⟨-, hP, hD, hS, hl⟩
    refine lv_iload_n hx hb dL_law_18 rfl (lv_at hl 0 rfl) ?_
    refine lv_aload_n hx hb dL_law_19 rfl (lv_at hl 3 rfl) ?_
    refine va_slen hx hb hX hbl hbA hS dL_law_20 ?_
    refine lv_bipush (v := 6) hx hb dL_law_21 (by decide) ?_
    refine lv_isub hx hb dL_law_23 ?_
    refine lv_icmp_gt (tgt := 1363) hx hb dL_law_24 (by decide) (fun _ => ?_) (fun c_ => absurd (sc_stop (i := L / 6) (L := L) (by omega) (by omega) hL) c_)
    refine lv_iconst (v := 1) hx hb dL_law_1363 (by decide) ?_
    refine va_forget (fun q hq => by have q9 := hS.2.2 q hq; rw [hAd] at q9; exact q9) ?_
    refine W.widen (k := 600000) (n := 7302250) (Nat.le_of_ble_eq_true rfl) (Nat.le_of_ble_eq_true rfl) ?_
    exact lw_ret hx hb hr hlocks dL_law_1364

