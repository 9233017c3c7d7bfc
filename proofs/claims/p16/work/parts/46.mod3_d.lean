/-! acts: what a path's end knows, and what is said of it -/
theorem sB_no {a v : Int32} {z : Nat} (e : v = nI z - 1) (hz : z ≤ 16) (q : a < 0 ∨ v < a) : ¬ sB (nI z) a := by
  rw [e] at q
  intro h
  exact ((trc_M hz).mp q).elim h.1 h.2
theorem iC_M {f : RF} {w k h : Nat} (hM : okM f w k h) {a : Int32} : iC (f 0) a ↔ sB (f 0) a := by
  obtain ⟨-, -, -, -, -, -, ⟨c, c1, c2, c3⟩, -⟩ := hM
  rw [c3]
  have h := trc_M (a := a) (z := c) (by omega)
  constructor
  · rintro ⟨p, q⟩
    exact ⟨p, fun r => (h.mpr (Or.inr r)).elim p q⟩
  · rintro ⟨p, q⟩
    exact ⟨p, fun r => (h.mp (Or.inr r)).elim p q⟩
section ACTM
variable {fs g : RF} {w9 k9 h9 ma man : Nat} {A B : AC}
theorem capM_n (h0 : fs 0 = 0) : m38 fs = n_cap (m38 fs) ∧ ma = kpN (gd_cap (m38 fs)) ma ∧ A = kpA (gd_cap (m38 fs)) (m38 fs) ma A ∧ (-1000002 : Int32) = a_cap (m38 fs) := by
  have g : ¬ gd_cap (m38 fs) := fun q => q h0
  exact ⟨(if_neg g).symm, (if_neg g).symm, (if_neg g).symm, (if_neg g).symm⟩
theorem capM_d {v3 v4 v6 : Int32} (h0 : ¬ fs 0 = 0) (e3 : v3 = fs 6) (e4 : v4 = 1 - v3) (hu : g = upd fs 6 v4) (e6 : v6 = g 6) (hA : A = ntA (m38 fs) ma B) (hN : man = ntN ma) : m38 g = n_cap (m38 fs) ∧ man = kpN (gd_cap (m38 fs)) ma ∧ A = kpA (gd_cap (m38 fs)) (m38 fs) ma B ∧ v6 = a_cap (m38 fs) := by
  have gg : gd_cap (m38 fs) := h0
  refine ⟨?_, hN.trans (if_pos gg).symm, hA.trans (if_pos gg).symm, ?_⟩
  · unfold n_cap
    rw [if_pos gg, hu, m38_up (by decide), e4, e3, mm6]
  · unfold a_cap
    rw [if_pos gg, e6, hu, pk_us, e4, e3, mm6]
theorem windM_g {a0 a1 : Int32} (h3 : fs 3 = nI w9) (hB : ¬ sB (nI w9) a0 ∨ (a1 < 0 ∨ 4 < a1)) : ¬ gd_wind (m38 fs) a0 a1 := by
  rintro ⟨x, y⟩
  rcases hB with q | q
  · rw [mm3, h3] at x
    exact q x
  · exact y q
theorem windM_n {a0 a1 : Int32} (g : ¬ gd_wind (m38 fs) a0 a1) : m38 fs = n_wind (m38 fs) a0 a1 ∧ ma = kpN (gd_wind (m38 fs) a0 a1) ma ∧ A = kpA (gd_wind (m38 fs) a0 a1) (m38 fs) ma A ∧ (-1000001 : Int32) = a_wind (m38 fs) a0 a1 := ⟨(if_neg g).symm, (if_neg g).symm, (if_neg g).symm, (if_neg g).symm⟩
theorem windM_d {j : Nat} {v x : Int32} (h3 : fs 3 = nI w9) (hw : w9 ≤ 6) (hj : j < w9) (q : ¬ (v < 0 ∨ 4 < v)) (e : x = fs (8 + j)) (hu : g = upd fs (8 + j) v) (hA : A = ntA (m38 fs) ma B) (hN : man = ntN ma) : m38 g = n_wind (m38 fs) (nI j) v ∧ man = kpN (gd_wind (m38 fs) (nI j) v) ma ∧ A = kpA (gd_wind (m38 fs) (nI j) v) (m38 fs) ma B ∧ x = a_wind (m38 fs) (nI j) v := by
  have gg : gd_wind (m38 fs) (nI j) v := ⟨by rw [mm3, h3]; exact sB_ok hj (by omega), q⟩
  have hc : (nI j).toNatClampNeg = j := nI_clamp (by omega)
  refine ⟨?_, hN.trans (if_pos gg).symm, hA.trans (if_pos gg).symm, ?_⟩
  · unfold n_wind
    rw [if_pos gg, hu, m38_up (by omega), hc]
  · unfold a_wind
    rw [if_pos gg, hc, m38_at (by omega), e]
theorem looM_n {a0 a1 a2 : Int32} (g : ¬ ok_loose (m38 fs) a0 a1 a2) : m38 fs = n_loose (m38 fs) a0 a1 a2 ∧ ma = kpN (gd_loose (m38 fs) a0 a1 a2) ma ∧ A = kpA (gd_loose (m38 fs) a0 a1 a2) (m38 fs) ma A ∧ (-1000001 : Int32) = a_loose (m38 fs) a0 a1 a2 := by
  have g2 : ¬ gd_loose (m38 fs) a0 a1 a2 := fun q => g q.1
  exact ⟨(if_neg g2).symm, (if_neg g2).symm, (if_neg g2).symm, (if_pos g).symm⟩
theorem looM_g {a0 a1 a2 : Int32} (hM : okM fs w9 k9 h9) (h : ¬ sB (nI k9) a0 ∨ ¬ iC (fs 0) a1 ∨ (a2 < 1 ∨ 20 < a2)) : ¬ ok_loose (m38 fs) a0 a1 a2 := by
  rintro ⟨x, y, z⟩
  rcases h with q | q | q
  · rw [mm4, hM.2.1] at x
    exact q x
  · rw [mm0] at y
    exact q ((iC_M hM).mpr y)
  · exact z q
theorem looM_ok {j : Nat} {a1 l : Int32} (hM : okM fs w9 k9 h9) (hj : j < k9) (hc : iC (fs 0) a1) (q : ¬ (l < 1 ∨ 20 < l)) : ok_loose (m38 fs) (nI j) a1 l := by
  have h6 := hM.2.2.2.2.1
  exact ⟨by rw [mm4, hM.2.1]; exact sB_ok hj (by omega), by rw [mm0]; exact (iC_M hM).mp hc, q⟩
theorem looM_s {j : Nat} {a1 l v : Int32} (hM : okM fs w9 k9 h9) (hj : j < k9) (hc : iC (fs 0) a1) (q : ¬ (l < 1 ∨ 20 < l)) (e : v = fs (26 + j)) (c : v = 0) : m38 fs = n_loose (m38 fs) (nI j) a1 l ∧ ma = kpN (gd_loose (m38 fs) (nI j) a1 l) ma ∧ A = kpA (gd_loose (m38 fs) (nI j) a1 l) (m38 fs) ma A ∧ (-1000002 : Int32) = a_loose (m38 fs) (nI j) a1 l := by
  have h6 := hM.2.2.2.2.1
  have ok := looM_ok hM hj hc q
  have hcl : (nI j).toNatClampNeg = j := nI_clamp (by omega)
  have z : m38 fs (26 + (nI j).toNatClampNeg) = 0 := by
    rw [hcl, m38_at (by omega), ← e]
    exact c
  have gg : ¬ gd_loose (m38 fs) (nI j) a1 l := fun t => t.2 z
  refine ⟨(if_neg gg).symm, (if_neg gg).symm, (if_neg gg).symm, ?_⟩
  unfold a_loose
  rw [if_neg (fun t => t ok), if_pos z]
theorem looM_d {j : Nat} {a1 l v z : Int32} (hM : okM fs w9 k9 h9) (hj : j < k9) (hc : iC (fs 0) a1) (q : ¬ (l < 1 ∨ 20 < l)) (e : v = fs (26 + j)) (c : ¬ v = 0) (hM2 : okM g w9 k9 h9) (hf : g = upd (upd (upd fs (26 + j) 0) (20 + j) a1) (32 + j) l) (hz : z = thR (fun s => g (26 + s)) 0 k9) (hA : A = ntA (m38 fs) ma B) (hN : man = ntN ma) : m38 g = n_loose (m38 fs) (nI j) a1 l ∧ man = kpN (gd_loose (m38 fs) (nI j) a1 l) ma ∧ A = kpA (gd_loose (m38 fs) (nI j) a1 l) (m38 fs) ma B ∧ z = a_loose (m38 fs) (nI j) a1 l := by
  have h6 := hM.2.2.2.2.1
  have ok := looM_ok hM hj hc q
  have hcl : (nI j).toNatClampNeg = j := nI_clamp (by omega)
  have nz : ¬ m38 fs (26 + (nI j).toNatClampNeg) = 0 := by
    rw [hcl, m38_at (by omega), ← e]
    exact c
  have gg : gd_loose (m38 fs) (nI j) a1 l := ⟨ok, nz⟩
  have hn : m38 g = n_loose (m38 fs) (nI j) a1 l := by
    unfold n_loose
    rw [if_pos gg, hf, hcl, m38_up (by omega), m38_up (by omega), m38_up (by omega)]
  refine ⟨hn, hN.trans (if_pos gg).symm, hA.trans (if_pos gg).symm, ?_⟩
  unfold a_loose
  rw [if_neg (fun t => t ok), if_neg nz, ← hn, th_M hM2]
  exact hz
theorem selM_0 {n : Int32} (h0 : fs 0 = 0) : m38 fs = n_sell (m38 fs) n ∧ ma = kpN (gd_sell (m38 fs) n) ma ∧ A = kpA (gd_sell (m38 fs) n) (m38 fs) ma A ∧ (-1000002 : Int32) = a_sell (m38 fs) n := by
  have z : m38 fs 0 = 0 := h0
  have gg : ¬ gd_sell (m38 fs) n := fun q => q.1 z
  refine ⟨(if_neg gg).symm, (if_neg gg).symm, (if_neg gg).symm, ?_⟩
  unfold a_sell
  rw [if_pos z]
theorem selM_1 {n : Int32} (h0 : ¬ fs 0 = 0) (q : n < 1 ∨ 999 < n) : m38 fs = n_sell (m38 fs) n ∧ ma = kpN (gd_sell (m38 fs) n) ma ∧ A = kpA (gd_sell (m38 fs) n) (m38 fs) ma A ∧ (-1000001 : Int32) = a_sell (m38 fs) n := by
  have z : ¬ m38 fs 0 = 0 := h0
  have gg : ¬ gd_sell (m38 fs) n := fun t => t.2.1 q
  refine ⟨(if_neg gg).symm, (if_neg gg).symm, (if_neg gg).symm, ?_⟩
  unfold a_sell
  rw [if_neg z, if_pos q]
theorem selM_2 {n v : Int32} (h0 : ¬ fs 0 = 0) (q : ¬ (n < 1 ∨ 999 < n)) (e : v = fs 7) (c : ¬ n ≤ v) : m38 fs = n_sell (m38 fs) n ∧ ma = kpN (gd_sell (m38 fs) n) ma ∧ A = kpA (gd_sell (m38 fs) n) (m38 fs) ma A ∧ (-1000002 : Int32) = a_sell (m38 fs) n := by
  have z : ¬ m38 fs 0 = 0 := h0
  have t : m38 fs 7 < n := by
    rw [mm7, ← e]
    exact i_nle.mp c
  have gg : ¬ gd_sell (m38 fs) n := fun q => q.2.2 t
  refine ⟨(if_neg gg).symm, (if_neg gg).symm, (if_neg gg).symm, ?_⟩
  unfold a_sell
  rw [if_neg z, if_neg q, if_pos t]
theorem selM_d {n v v8 v9 v11 : Int32} (h0 : ¬ fs 0 = 0) (q : ¬ (n < 1 ∨ 999 < n)) (e : v = fs 7) (c : n ≤ v) (e8 : v8 = fs 7) (e9 : v9 = v8 - n) (hu : g = upd fs 7 v9) (e11 : v11 = g 7) (hA : A = ntA (m38 fs) ma B) (hN : man = ntN ma) : m38 g = n_sell (m38 fs) n ∧ man = kpN (gd_sell (m38 fs) n) ma ∧ A = kpA (gd_sell (m38 fs) n) (m38 fs) ma B ∧ v11 = a_sell (m38 fs) n := by
  have z : ¬ m38 fs 0 = 0 := h0
  have t : ¬ m38 fs 7 < n := by
    rw [mm7, ← e]
    exact i_nlt.mpr c
  have gg : gd_sell (m38 fs) n := ⟨z, q, t⟩
  refine ⟨?_, hN.trans (if_pos gg).symm, hA.trans (if_pos gg).symm, ?_⟩
  · unfold n_sell
    rw [if_pos gg, hu, m38_up (by decide), e9, e8, mm7]
  · unfold a_sell
    rw [if_neg z, if_neg q, if_neg t, e11, hu, pk_us, e9, e8, mm7]
theorem hr_stepM {i n z z2 : Nat} {r F F2 C C2 : RF} {a : AC} (h : hrI i r n a = (m38 F, z, acM C z)) (hA : acM C2 z2 = ntA (m38 F) z (acM C z)) (hN : z2 = ntN z) (hF : F2 = mH F) (hc : m38 (mH F) = mH (m38 F)) : hrI (i + 1) r n a = (m38 F2, z2, acM C2 z2) := by
  show (mH (hrI i r n a).1, ntN (hrI i r n a).2.1, ntA (hrI i r n a).1 (hrI i r n a).2.1 (hrI i r n a).2.2) = _
  rw [h, hA, hF, hc, hN]
theorem hrsM_0 {r : RF} {An : Nat} {Ac : AC} {n : Int32} (h0 : r 0 = 0) : r = (s_hrs r An Ac n).1 ∧ An = (s_hrs r An Ac n).2.1 ∧ Ac = (s_hrs r An Ac n).2.2 ∧ (-1000002 : Int32) = a_hrs r n := by
  have gg : ¬ gd_hrs r n := fun q => q.1 h0
  have e : s_hrs r An Ac n = (r, An, Ac) := if_neg gg
  rw [e]
  exact ⟨rfl, rfl, rfl, (if_pos h0).symm⟩
theorem hrsM_1 {r : RF} {An : Nat} {Ac : AC} {n : Int32} (h0 : ¬ r 0 = 0) (q : n < 1 ∨ 24 < n) : r = (s_hrs r An Ac n).1 ∧ An = (s_hrs r An Ac n).2.1 ∧ Ac = (s_hrs r An Ac n).2.2 ∧ (-1000001 : Int32) = a_hrs r n := by
  have gg : ¬ gd_hrs r n := fun t => t.2.1 q
  have e : s_hrs r An Ac n = (r, An, Ac) := if_neg gg
  rw [e]
  refine ⟨rfl, rfl, rfl, ?_⟩
  unfold a_hrs
  rw [if_neg h0, if_pos q]
theorem hrsM_2 {r : RF} {An j h : Nat} {Ac : AC} (h1 : ¬ nI j < 1) (h0 : ¬ r 0 = 0) (hj : j ≤ 24) (h5 : r 5 = nI h) (hb : h ≤ 999) (hh : ¬ h + j ≤ 999) : r = (s_hrs r An Ac (nI j)).1 ∧ An = (s_hrs r An Ac (nI j)).2.1 ∧ Ac = (s_hrs r An Ac (nI j)).2.2 ∧ (-1000003 : Int32) = a_hrs r (nI j) := by
  rw [hrs_neg h1 h0 hj h5 hb hh]
  exact ⟨rfl, rfl, rfl, (hrs_nega h1 h0 hj h5 hb hh).symm⟩
end ACTM
theorem askM_do {fs fe : RF} {mx w9 k9 h9 j : Nat} {x : Int32} (hM : okM fs w9 k9 h9) (hj : j < k9) (hx : x = 0 ∨ x = 1) : a_ask (m38 fs) (nI j) x (mx, fe) = (akM fs j x (0, fe)).1 ∧ n_ask (m38 fs) (nI j) x (mx, fe) = (akM fs j x (0, fe)).2 := by
  have h6 := hM.2.2.2.2.1
  have hc : (nI j).toNatClampNeg = j := nI_clamp (by omega)
  have hB : ¬ nI j < 0 ∧ ¬ m38 fs 4 ≤ nI j := by
    rw [mm4, hM.2.1]
    exact sB_ok hj (by omega)
  have g : ¬ (¬ (¬ nI j < 0 ∧ ¬ m38 fs 4 ≤ nI j) ∨ ¬ (x = 0 ∨ x = 1)) := by
    rintro (q | q)
    · exact q hB
    · exact q hx
  have hk : akM (m38 fs) j x (0, fe) = akM fs j x (0, fe) := akM_c (by omega)
  unfold a_ask n_ask
  rw [if_neg g, if_neg g, hc, hk]
  exact ⟨rfl, rfl⟩
theorem askM_1 {fs fe F : RF} {mx w9 k9 h9 j i m : Nat} {r : Int32} (hM : okM fs w9 k9 h9) (hj : j < k9) (hi : i ≤ 1) (c : ¬ i = 0) (h1 : (mkM fs j (0, fe)).2 = (m, F)) (h2 : r = (mkM fs j (0, fe)).1) : m = (n_ask (m38 fs) (nI j) (nI i) (mx, fe)).1 ∧ F = (n_ask (m38 fs) (nI j) (nI i) (mx, fe)).2 ∧ r = a_ask (m38 fs) (nI j) (nI i) (mx, fe) := by
  obtain rfl : i = 1 := by omega
  obtain ⟨a, b⟩ := askM_do (fe := fe) (mx := mx) (x := nI 1) hM hj (Or.inr rfl)
  have e : akM fs j (nI 1) (0, fe) = mkM fs j (0, fe) := if_neg (by decide)
  rw [a, b, e, h1, h2]
  exact ⟨rfl, rfl, rfl⟩
theorem askM_0 {fs fe F : RF} {mx w9 k9 h9 j i m : Nat} {r : Int32} (hM : okM fs w9 k9 h9) (hj : j < k9) (c : i = 0) (h1 : (szM fs j (0, fe)).2 = (m, F)) (h2 : r = (szM fs j (0, fe)).1) : m = (n_ask (m38 fs) (nI j) (nI i) (mx, fe)).1 ∧ F = (n_ask (m38 fs) (nI j) (nI i) (mx, fe)).2 ∧ r = a_ask (m38 fs) (nI j) (nI i) (mx, fe) := by
  subst c
  obtain ⟨a, b⟩ := askM_do (fe := fe) (mx := mx) (x := nI 0) hM hj (Or.inl rfl)
  have e : akM fs j (nI 0) (0, fe) = szM fs j (0, fe) := if_pos (by decide)
  rw [a, b, e, h1, h2]
  exact ⟨rfl, rfl, rfl⟩
theorem dX8_cap_0 : decode cX8_cap 0 = .ok (.aload_n 0, 1) := dq_42 (by decide +kernel)
theorem dX8_cap_1 : decode cX8_cap 1 = .ok (.getfield 138, 3) := dq_180 (b1 := 0) (b2 := 138) (by decide +kernel) (by decide)
theorem dX8_cap_10 : decode cX8_cap 10 = .ok (.aload_n 0, 1) := dq_42 (by decide +kernel)
theorem dX8_cap_11 : decode cX8_cap 11 = .ok (.invokevirtual 164, 3) := dq_182 (b1 := 0) (b2 := 164) (by decide +kernel) (by decide)
theorem dX8_cap_14 : decode cX8_cap 14 = .ok (.aload_n 0, 1) := dq_42 (by decide +kernel)
theorem dX8_cap_15 : decode cX8_cap 15 = .ok (.getfield 19, 3) := dq_180 (b1 := 0) (b2 := 19) (by decide +kernel) (by decide)
theorem dX8_cap_18 : decode cX8_cap 18 = .ok (.bipush 6, 2) := dq_16 (b1 := 6) (by decide +kernel) (by decide)
theorem dX8_cap_20 : decode cX8_cap 20 = .ok (.iconst 1, 1) := dq_4 (by decide +kernel)
theorem dX8_cap_21 : decode cX8_cap 21 = .ok (.aload_n 0, 1) := dq_42 (by decide +kernel)
theorem dX8_cap_22 : decode cX8_cap 22 = .ok (.getfield 19, 3) := dq_180 (b1 := 0) (b2 := 19) (by decide +kernel) (by decide)
theorem dX8_cap_25 : decode cX8_cap 25 = .ok (.bipush 6, 2) := dq_16 (b1 := 6) (by decide +kernel) (by decide)
theorem dX8_cap_27 : decode cX8_cap 27 = .ok (.iaload, 1) := dq_46 (by decide +kernel)
theorem dX8_cap_28 : decode cX8_cap 28 = .ok (.isub, 1) := dq_100 (by decide +kernel)
theorem dX8_cap_29 : decode cX8_cap 29 = .ok (.iastore, 1) := dq_79 (by decide +kernel)
theorem dX8_cap_30 : decode cX8_cap 30 = .ok (.aload_n 0, 1) := dq_42 (by decide +kernel)
theorem dX8_cap_31 : decode cX8_cap 31 = .ok (.getfield 19, 3) := dq_180 (b1 := 0) (b2 := 19) (by decide +kernel) (by decide)
theorem dX8_cap_34 : decode cX8_cap 34 = .ok (.bipush 6, 2) := dq_16 (b1 := 6) (by decide +kernel) (by decide)
theorem dX8_cap_36 : decode cX8_cap 36 = .ok (.iaload, 1) := dq_46 (by decide +kernel)
theorem dX8_cap_37 : decode cX8_cap 37 = .ok (.ireturn, 1) := dq_172 (by decide +kernel)
theorem dX8_cap_4 : decode cX8_cap 4 = .ok (.ifCond .ne 6, 3) := dq_154 (b1 := 0) (b2 := 6) (by decide +kernel) (by decide)
theorem dX8_cap_7 : decode cX8_cap 7 = .ok (.ldc 161, 2) := dq_18 (b1 := 161) (by decide +kernel) (by decide)
theorem dX8_cap_9 : decode cX8_cap 9 = .ok (.ireturn, 1) := dq_172 (by decide +kernel)
theorem dX8_hours_0 : decode cX8_hours 0 = .ok (.aload_n 0, 1) := dq_42 (by decide +kernel)
theorem dX8_hours_1 : decode cX8_hours 1 = .ok (.getfield 138, 3) := dq_180 (b1 := 0) (b2 := 138) (by decide +kernel) (by decide)
theorem dX8_hours_10 : decode cX8_hours 10 = .ok (.iload_n 1, 1) := dq_27 (by decide +kernel)
theorem dX8_hours_11 : decode cX8_hours 11 = .ok (.i2l, 1) := dq_133 (by decide +kernel)
theorem dX8_hours_12 : decode cX8_hours 12 = .ok (.lconst 1, 1) := dq_10 (by decide +kernel)
theorem dX8_hours_13 : decode cX8_hours 13 = .ok (.ldc2_w 162, 3) := dq_20 (b1 := 0) (b2 := 162) (by decide +kernel) (by decide)
theorem dX8_hours_16 : decode cX8_hours 16 = .ok (.invokestatic 57, 3) := dq_184 (b1 := 0) (b2 := 57) (by decide +kernel) (by decide)
theorem dX8_hours_19 : decode cX8_hours 19 = .ok (.ifCond .ne 6, 3) := dq_154 (b1 := 0) (b2 := 6) (by decide +kernel) (by decide)
theorem dX8_hours_22 : decode cX8_hours 22 = .ok (.ldc 67, 2) := dq_18 (b1 := 67) (by decide +kernel) (by decide)
theorem dX8_hours_24 : decode cX8_hours 24 = .ok (.ireturn, 1) := dq_172 (by decide +kernel)
theorem dX8_hours_25 : decode cX8_hours 25 = .ok (.aload_n 0, 1) := dq_42 (by decide +kernel)
theorem dX8_hours_26 : decode cX8_hours 26 = .ok (.getfield 19, 3) := dq_180 (b1 := 0) (b2 := 19) (by decide +kernel) (by decide)
theorem dX8_hours_29 : decode cX8_hours 29 = .ok (.iconst 5, 1) := dq_8 (by decide +kernel)
theorem dX8_hours_30 : decode cX8_hours 30 = .ok (.iaload, 1) := dq_46 (by decide +kernel)
theorem dX8_hours_31 : decode cX8_hours 31 = .ok (.iload_n 1, 1) := dq_27 (by decide +kernel)
theorem dX8_hours_32 : decode cX8_hours 32 = .ok (.iadd, 1) := dq_96 (by decide +kernel)
theorem dX8_hours_33 : decode cX8_hours 33 = .ok (.sipush 999, 3) := dq_17 (b1 := 3) (b2 := 231) (by decide +kernel) (by decide)
theorem dX8_hours_36 : decode cX8_hours 36 = .ok (.if_icmp .le 6, 3) := dq_164 (b1 := 0) (b2 := 6) (by decide +kernel) (by decide)
theorem dX8_hours_39 : decode cX8_hours 39 = .ok (.ldc 84, 2) := dq_18 (b1 := 84) (by decide +kernel) (by decide)
theorem dX8_hours_4 : decode cX8_hours 4 = .ok (.ifCond .ne 6, 3) := dq_154 (b1 := 0) (b2 := 6) (by decide +kernel) (by decide)
theorem dX8_hours_41 : decode cX8_hours 41 = .ok (.ireturn, 1) := dq_172 (by decide +kernel)
theorem dX8_hours_42 : decode cX8_hours 42 = .ok (.iconst 0, 1) := dq_3 (by decide +kernel)
theorem dX8_hours_43 : decode cX8_hours 43 = .ok (.istore_n 2, 1) := dq_61 (by decide +kernel)
theorem dX8_hours_44 : decode cX8_hours 44 = .ok (.iload_n 2, 1) := dq_28 (by decide +kernel)
theorem dX8_hours_45 : decode cX8_hours 45 = .ok (.iload_n 1, 1) := dq_27 (by decide +kernel)
theorem dX8_hours_46 : decode cX8_hours 46 = .ok (.if_icmp .ge 18, 3) := dq_162 (b1 := 0) (b2 := 18) (by decide +kernel) (by decide)
theorem dX8_hours_49 : decode cX8_hours 49 = .ok (.aload_n 0, 1) := dq_42 (by decide +kernel)
theorem dX8_hours_50 : decode cX8_hours 50 = .ok (.invokevirtual 164, 3) := dq_182 (b1 := 0) (b2 := 164) (by decide +kernel) (by decide)
theorem dX8_hours_53 : decode cX8_hours 53 = .ok (.aload_n 0, 1) := dq_42 (by decide +kernel)
theorem dX8_hours_54 : decode cX8_hours 54 = .ok (.invokevirtual 167, 3) := dq_182 (b1 := 0) (b2 := 167) (by decide +kernel) (by decide)
theorem dX8_hours_57 : decode cX8_hours 57 = .ok (.pop, 1) := dq_87 (by decide +kernel)
theorem dX8_hours_58 : decode cX8_hours 58 = .ok (.iinc 2 1, 3) := dq_132 (b1 := 2) (b2 := 1) (by decide +kernel) (by decide) (by decide)
theorem dX8_hours_61 : decode cX8_hours 61 = .ok (.goto (-17), 3) := dq_167 (b1 := 255) (b2 := 239) (by decide +kernel) (by decide)
theorem dX8_hours_64 : decode cX8_hours 64 = .ok (.aload_n 0, 1) := dq_42 (by decide +kernel)
theorem dX8_hours_65 : decode cX8_hours 65 = .ok (.getfield 19, 3) := dq_180 (b1 := 0) (b2 := 19) (by decide +kernel) (by decide)
theorem dX8_hours_68 : decode cX8_hours 68 = .ok (.bipush 7, 2) := dq_16 (b1 := 7) (by decide +kernel) (by decide)
theorem dX8_hours_7 : decode cX8_hours 7 = .ok (.ldc 161, 2) := dq_18 (b1 := 161) (by decide +kernel) (by decide)
theorem dX8_hours_70 : decode cX8_hours 70 = .ok (.iaload, 1) := dq_46 (by decide +kernel)
theorem dX8_hours_71 : decode cX8_hours 71 = .ok (.ireturn, 1) := dq_172 (by decide +kernel)
theorem dX8_hours_9 : decode cX8_hours 9 = .ok (.ireturn, 1) := dq_172 (by decide +kernel)
theorem dX8_loose_0 : decode cX8_loose 0 = .ok (.aload_n 0, 1) := dq_42 (by decide +kernel)
theorem dX8_loose_1 : decode cX8_loose 1 = .ok (.iload_n 1, 1) := dq_27 (by decide +kernel)
theorem dX8_loose_10 : decode cX8_loose 10 = .ok (.invokevirtual 148, 3) := dq_182 (b1 := 0) (b2 := 148) (by decide +kernel) (by decide)
theorem dX8_loose_13 : decode cX8_loose 13 = .ok (.ifCond .eq 15, 3) := dq_153 (b1 := 0) (b2 := 15) (by decide +kernel) (by decide)
theorem dX8_loose_16 : decode cX8_loose 16 = .ok (.iload_n 3, 1) := dq_29 (by decide +kernel)
theorem dX8_loose_17 : decode cX8_loose 17 = .ok (.i2l, 1) := dq_133 (by decide +kernel)
theorem dX8_loose_18 : decode cX8_loose 18 = .ok (.lconst 1, 1) := dq_10 (by decide +kernel)
theorem dX8_loose_19 : decode cX8_loose 19 = .ok (.ldc2_w 176, 3) := dq_20 (b1 := 0) (b2 := 176) (by decide +kernel) (by decide)
theorem dX8_loose_2 : decode cX8_loose 2 = .ok (.invokevirtual 173, 3) := dq_182 (b1 := 0) (b2 := 173) (by decide +kernel) (by decide)
theorem dX8_loose_22 : decode cX8_loose 22 = .ok (.invokestatic 57, 3) := dq_184 (b1 := 0) (b2 := 57) (by decide +kernel) (by decide)
theorem dX8_loose_25 : decode cX8_loose 25 = .ok (.ifCond .ne 6, 3) := dq_154 (b1 := 0) (b2 := 6) (by decide +kernel) (by decide)
theorem dX8_loose_28 : decode cX8_loose 28 = .ok (.ldc 67, 2) := dq_18 (b1 := 67) (by decide +kernel) (by decide)
theorem dX8_loose_30 : decode cX8_loose 30 = .ok (.ireturn, 1) := dq_172 (by decide +kernel)
theorem dX8_loose_31 : decode cX8_loose 31 = .ok (.aload_n 0, 1) := dq_42 (by decide +kernel)
theorem dX8_loose_32 : decode cX8_loose 32 = .ok (.getfield 19, 3) := dq_180 (b1 := 0) (b2 := 19) (by decide +kernel) (by decide)
theorem dX8_loose_35 : decode cX8_loose 35 = .ok (.bipush 26, 2) := dq_16 (b1 := 26) (by decide +kernel) (by decide)
theorem dX8_loose_37 : decode cX8_loose 37 = .ok (.iload_n 1, 1) := dq_27 (by decide +kernel)
theorem dX8_loose_38 : decode cX8_loose 38 = .ok (.iadd, 1) := dq_96 (by decide +kernel)
theorem dX8_loose_39 : decode cX8_loose 39 = .ok (.iaload, 1) := dq_46 (by decide +kernel)
theorem dX8_loose_40 : decode cX8_loose 40 = .ok (.ifCond .ne 6, 3) := dq_154 (b1 := 0) (b2 := 6) (by decide +kernel) (by decide)
theorem dX8_loose_43 : decode cX8_loose 43 = .ok (.ldc 161, 2) := dq_18 (b1 := 161) (by decide +kernel) (by decide)
theorem dX8_loose_45 : decode cX8_loose 45 = .ok (.ireturn, 1) := dq_172 (by decide +kernel)
theorem dX8_loose_46 : decode cX8_loose 46 = .ok (.aload_n 0, 1) := dq_42 (by decide +kernel)
theorem dX8_loose_47 : decode cX8_loose 47 = .ok (.invokevirtual 164, 3) := dq_182 (b1 := 0) (b2 := 164) (by decide +kernel) (by decide)
theorem dX8_loose_5 : decode cX8_loose 5 = .ok (.ifCond .eq 23, 3) := dq_153 (b1 := 0) (b2 := 23) (by decide +kernel) (by decide)
theorem dX8_loose_50 : decode cX8_loose 50 = .ok (.aload_n 0, 1) := dq_42 (by decide +kernel)
theorem dX8_loose_51 : decode cX8_loose 51 = .ok (.iload_n 1, 1) := dq_27 (by decide +kernel)
theorem dX8_loose_52 : decode cX8_loose 52 = .ok (.iload_n 2, 1) := dq_28 (by decide +kernel)
theorem dX8_loose_53 : decode cX8_loose 53 = .ok (.iload_n 3, 1) := dq_29 (by decide +kernel)
theorem dX8_loose_54 : decode cX8_loose 54 = .ok (.invokevirtual 178, 3) := dq_182 (b1 := 0) (b2 := 178) (by decide +kernel) (by decide)
theorem dX8_loose_57 : decode cX8_loose 57 = .ok (.aload_n 0, 1) := dq_42 (by decide +kernel)
theorem dX8_loose_58 : decode cX8_loose 58 = .ok (.iconst 0, 1) := dq_3 (by decide +kernel)
theorem dX8_loose_59 : decode cX8_loose 59 = .ok (.invokevirtual 182, 3) := dq_182 (b1 := 0) (b2 := 182) (by decide +kernel) (by decide)
theorem dX8_loose_62 : decode cX8_loose 62 = .ok (.ireturn, 1) := dq_172 (by decide +kernel)
theorem dX8_loose_8 : decode cX8_loose 8 = .ok (.aload_n 0, 1) := dq_42 (by decide +kernel)
theorem dX8_loose_9 : decode cX8_loose 9 = .ok (.iload_n 2, 1) := dq_28 (by decide +kernel)
theorem dX8_note_0 : decode cX8_note 0 = .ok (.aload_n 0, 1) := dq_42 (by decide +kernel)
theorem dX8_note_1 : decode cX8_note 1 = .ok (.getfield 142, 3) := dq_180 (b1 := 0) (b2 := 142) (by decide +kernel) (by decide)
theorem dX8_note_10 : decode cX8_note 10 = .ok (.istore_n 1, 1) := dq_60 (by decide +kernel)
theorem dX8_note_11 : decode cX8_note 11 = .ok (.iload_n 1, 1) := dq_27 (by decide +kernel)
theorem dX8_note_12 : decode cX8_note 12 = .ok (.sipush 874, 3) := dq_17 (b1 := 3) (b2 := 106) (by decide +kernel) (by decide)
theorem dX8_note_15 : decode cX8_note 15 = .ok (.if_icmp .ge 24, 3) := dq_162 (b1 := 0) (b2 := 24) (by decide +kernel) (by decide)
theorem dX8_note_18 : decode cX8_note 18 = .ok (.aload_n 0, 1) := dq_42 (by decide +kernel)
theorem dX8_note_19 : decode cX8_note 19 = .ok (.getfield 31, 3) := dq_180 (b1 := 0) (b2 := 31) (by decide +kernel) (by decide)
theorem dX8_note_22 : decode cX8_note 22 = .ok (.iload_n 1, 1) := dq_27 (by decide +kernel)
theorem dX8_note_23 : decode cX8_note 23 = .ok (.aload_n 0, 1) := dq_42 (by decide +kernel)
theorem dX8_note_24 : decode cX8_note 24 = .ok (.getfield 31, 3) := dq_180 (b1 := 0) (b2 := 31) (by decide +kernel) (by decide)
theorem dX8_note_27 : decode cX8_note 27 = .ok (.iload_n 1, 1) := dq_27 (by decide +kernel)
theorem dX8_note_28 : decode cX8_note 28 = .ok (.bipush 38, 2) := dq_16 (b1 := 38) (by decide +kernel) (by decide)
theorem dX8_note_30 : decode cX8_note 30 = .ok (.iadd, 1) := dq_96 (by decide +kernel)
theorem dX8_note_31 : decode cX8_note 31 = .ok (.iaload, 1) := dq_46 (by decide +kernel)
theorem dX8_note_32 : decode cX8_note 32 = .ok (.iastore, 1) := dq_79 (by decide +kernel)
theorem dX8_note_33 : decode cX8_note 33 = .ok (.iinc 1 1, 3) := dq_132 (b1 := 1) (b2 := 1) (by decide +kernel) (by decide) (by decide)
theorem dX8_note_36 : decode cX8_note 36 = .ok (.goto (-25), 3) := dq_167 (b1 := 255) (b2 := 231) (by decide +kernel) (by decide)
theorem dX8_note_39 : decode cX8_note 39 = .ok (.aload_n 0, 1) := dq_42 (by decide +kernel)
theorem dX8_note_4 : decode cX8_note 4 = .ok (.bipush 24, 2) := dq_16 (b1 := 24) (by decide +kernel) (by decide)
theorem dX8_note_40 : decode cX8_note 40 = .ok (.dup, 1) := dq_89 (by decide +kernel)
theorem dX8_note_41 : decode cX8_note 41 = .ok (.getfield 142, 3) := dq_180 (b1 := 0) (b2 := 142) (by decide +kernel) (by decide)
theorem dX8_note_44 : decode cX8_note 44 = .ok (.iconst 1, 1) := dq_4 (by decide +kernel)
theorem dX8_note_45 : decode cX8_note 45 = .ok (.isub, 1) := dq_100 (by decide +kernel)
theorem dX8_note_46 : decode cX8_note 46 = .ok (.putfield 142, 3) := dq_181 (b1 := 0) (b2 := 142) (by decide +kernel) (by decide)
theorem dX8_note_49 : decode cX8_note 49 = .ok (.iconst 0, 1) := dq_3 (by decide +kernel)
theorem dX8_note_50 : decode cX8_note 50 = .ok (.istore_n 1, 1) := dq_60 (by decide +kernel)
theorem dX8_note_51 : decode cX8_note 51 = .ok (.iload_n 1, 1) := dq_27 (by decide +kernel)
theorem dX8_note_52 : decode cX8_note 52 = .ok (.bipush 38, 2) := dq_16 (b1 := 38) (by decide +kernel) (by decide)
theorem dX8_note_54 : decode cX8_note 54 = .ok (.if_icmp .ge 29, 3) := dq_162 (b1 := 0) (b2 := 29) (by decide +kernel) (by decide)
theorem dX8_note_57 : decode cX8_note 57 = .ok (.aload_n 0, 1) := dq_42 (by decide +kernel)
theorem dX8_note_58 : decode cX8_note 58 = .ok (.getfield 31, 3) := dq_180 (b1 := 0) (b2 := 31) (by decide +kernel) (by decide)
theorem dX8_note_6 : decode cX8_note 6 = .ok (.if_icmp .ne 43, 3) := dq_160 (b1 := 0) (b2 := 43) (by decide +kernel) (by decide)
theorem dX8_note_61 : decode cX8_note 61 = .ok (.bipush 38, 2) := dq_16 (b1 := 38) (by decide +kernel) (by decide)
theorem dX8_note_63 : decode cX8_note 63 = .ok (.aload_n 0, 1) := dq_42 (by decide +kernel)
theorem dX8_note_64 : decode cX8_note 64 = .ok (.getfield 142, 3) := dq_180 (b1 := 0) (b2 := 142) (by decide +kernel) (by decide)
theorem dX8_note_67 : decode cX8_note 67 = .ok (.imul, 1) := dq_104 (by decide +kernel)
theorem dX8_note_68 : decode cX8_note 68 = .ok (.iload_n 1, 1) := dq_27 (by decide +kernel)
theorem dX8_note_69 : decode cX8_note 69 = .ok (.iadd, 1) := dq_96 (by decide +kernel)
theorem dX8_note_70 : decode cX8_note 70 = .ok (.aload_n 0, 1) := dq_42 (by decide +kernel)
theorem dX8_note_71 : decode cX8_note 71 = .ok (.getfield 19, 3) := dq_180 (b1 := 0) (b2 := 19) (by decide +kernel) (by decide)
theorem dX8_note_74 : decode cX8_note 74 = .ok (.iload_n 1, 1) := dq_27 (by decide +kernel)
theorem dX8_note_75 : decode cX8_note 75 = .ok (.iaload, 1) := dq_46 (by decide +kernel)
theorem dX8_note_76 : decode cX8_note 76 = .ok (.iastore, 1) := dq_79 (by decide +kernel)
theorem dX8_note_77 : decode cX8_note 77 = .ok (.iinc 1 1, 3) := dq_132 (b1 := 1) (b2 := 1) (by decide +kernel) (by decide) (by decide)
theorem dX8_note_80 : decode cX8_note 80 = .ok (.goto (-29), 3) := dq_167 (b1 := 255) (b2 := 227) (by decide +kernel) (by decide)
theorem dX8_note_83 : decode cX8_note 83 = .ok (.aload_n 0, 1) := dq_42 (by decide +kernel)
theorem dX8_note_84 : decode cX8_note 84 = .ok (.dup, 1) := dq_89 (by decide +kernel)
theorem dX8_note_85 : decode cX8_note 85 = .ok (.getfield 142, 3) := dq_180 (b1 := 0) (b2 := 142) (by decide +kernel) (by decide)
theorem dX8_note_88 : decode cX8_note 88 = .ok (.iconst 1, 1) := dq_4 (by decide +kernel)
theorem dX8_note_89 : decode cX8_note 89 = .ok (.iadd, 1) := dq_96 (by decide +kernel)
theorem dX8_note_9 : decode cX8_note 9 = .ok (.iconst 0, 1) := dq_3 (by decide +kernel)
theorem dX8_note_90 : decode cX8_note 90 = .ok (.putfield 142, 3) := dq_181 (b1 := 0) (b2 := 142) (by decide +kernel) (by decide)
theorem dX8_note_93 : decode cX8_note 93 = .ok (.return_, 1) := dq_177 (by decide +kernel)
theorem dX8_sell_0 : decode cX8_sell 0 = .ok (.aload_n 0, 1) := dq_42 (by decide +kernel)
theorem dX8_sell_1 : decode cX8_sell 1 = .ok (.getfield 138, 3) := dq_180 (b1 := 0) (b2 := 138) (by decide +kernel) (by decide)
theorem dX8_sell_10 : decode cX8_sell 10 = .ok (.iload_n 1, 1) := dq_27 (by decide +kernel)
theorem dX8_sell_11 : decode cX8_sell 11 = .ok (.i2l, 1) := dq_133 (by decide +kernel)
theorem dX8_sell_12 : decode cX8_sell 12 = .ok (.lconst 1, 1) := dq_10 (by decide +kernel)
theorem dX8_sell_13 : decode cX8_sell 13 = .ok (.ldc2_w 185, 3) := dq_20 (b1 := 0) (b2 := 185) (by decide +kernel) (by decide)
theorem dX8_sell_16 : decode cX8_sell 16 = .ok (.invokestatic 57, 3) := dq_184 (b1 := 0) (b2 := 57) (by decide +kernel) (by decide)
theorem dX8_sell_19 : decode cX8_sell 19 = .ok (.ifCond .ne 6, 3) := dq_154 (b1 := 0) (b2 := 6) (by decide +kernel) (by decide)
theorem dX8_sell_22 : decode cX8_sell 22 = .ok (.ldc 67, 2) := dq_18 (b1 := 67) (by decide +kernel) (by decide)
theorem dX8_sell_24 : decode cX8_sell 24 = .ok (.ireturn, 1) := dq_172 (by decide +kernel)
theorem dX8_sell_25 : decode cX8_sell 25 = .ok (.aload_n 0, 1) := dq_42 (by decide +kernel)
theorem dX8_sell_26 : decode cX8_sell 26 = .ok (.getfield 19, 3) := dq_180 (b1 := 0) (b2 := 19) (by decide +kernel) (by decide)
theorem dX8_sell_29 : decode cX8_sell 29 = .ok (.bipush 7, 2) := dq_16 (b1 := 7) (by decide +kernel) (by decide)
theorem dX8_sell_31 : decode cX8_sell 31 = .ok (.iaload, 1) := dq_46 (by decide +kernel)
theorem dX8_sell_32 : decode cX8_sell 32 = .ok (.iload_n 1, 1) := dq_27 (by decide +kernel)
theorem dX8_sell_33 : decode cX8_sell 33 = .ok (.if_icmp .ge 6, 3) := dq_162 (b1 := 0) (b2 := 6) (by decide +kernel) (by decide)
theorem dX8_sell_36 : decode cX8_sell 36 = .ok (.ldc 161, 2) := dq_18 (b1 := 161) (by decide +kernel) (by decide)
theorem dX8_sell_38 : decode cX8_sell 38 = .ok (.ireturn, 1) := dq_172 (by decide +kernel)
theorem dX8_sell_39 : decode cX8_sell 39 = .ok (.aload_n 0, 1) := dq_42 (by decide +kernel)
theorem dX8_sell_4 : decode cX8_sell 4 = .ok (.ifCond .ne 6, 3) := dq_154 (b1 := 0) (b2 := 6) (by decide +kernel) (by decide)
theorem dX8_sell_40 : decode cX8_sell 40 = .ok (.invokevirtual 164, 3) := dq_182 (b1 := 0) (b2 := 164) (by decide +kernel) (by decide)
theorem dX8_sell_43 : decode cX8_sell 43 = .ok (.aload_n 0, 1) := dq_42 (by decide +kernel)
theorem dX8_sell_44 : decode cX8_sell 44 = .ok (.getfield 19, 3) := dq_180 (b1 := 0) (b2 := 19) (by decide +kernel) (by decide)
theorem dX8_sell_47 : decode cX8_sell 47 = .ok (.bipush 7, 2) := dq_16 (b1 := 7) (by decide +kernel) (by decide)
theorem dX8_sell_49 : decode cX8_sell 49 = .ok (.dup2, 1) := dq_92 (by decide +kernel)
theorem dX8_sell_50 : decode cX8_sell 50 = .ok (.iaload, 1) := dq_46 (by decide +kernel)
theorem dX8_sell_51 : decode cX8_sell 51 = .ok (.iload_n 1, 1) := dq_27 (by decide +kernel)
theorem dX8_sell_52 : decode cX8_sell 52 = .ok (.isub, 1) := dq_100 (by decide +kernel)
theorem dX8_sell_53 : decode cX8_sell 53 = .ok (.iastore, 1) := dq_79 (by decide +kernel)
theorem dX8_sell_54 : decode cX8_sell 54 = .ok (.aload_n 0, 1) := dq_42 (by decide +kernel)
theorem dX8_sell_55 : decode cX8_sell 55 = .ok (.getfield 19, 3) := dq_180 (b1 := 0) (b2 := 19) (by decide +kernel) (by decide)
theorem dX8_sell_58 : decode cX8_sell 58 = .ok (.bipush 7, 2) := dq_16 (b1 := 7) (by decide +kernel) (by decide)
theorem dX8_sell_60 : decode cX8_sell 60 = .ok (.iaload, 1) := dq_46 (by decide +kernel)
theorem dX8_sell_61 : decode cX8_sell 61 = .ok (.ireturn, 1) := dq_172 (by decide +kernel)
theorem dX8_sell_7 : decode cX8_sell 7 = .ok (.ldc 161, 2) := dq_18 (b1 := 161) (by decide +kernel) (by decide)
theorem dX8_sell_9 : decode cX8_sell 9 = .ok (.ireturn, 1) := dq_172 (by decide +kernel)
theorem dX8_undo_0 : decode cX8_undo 0 = .ok (.aload_n 0, 1) := dq_42 (by decide +kernel)
theorem dX8_undo_1 : decode cX8_undo 1 = .ok (.getfield 142, 3) := dq_180 (b1 := 0) (b2 := 142) (by decide +kernel) (by decide)
theorem dX8_undo_10 : decode cX8_undo 10 = .ok (.aload_n 0, 1) := dq_42 (by decide +kernel)
theorem dX8_undo_11 : decode cX8_undo 11 = .ok (.dup, 1) := dq_89 (by decide +kernel)
theorem dX8_undo_12 : decode cX8_undo 12 = .ok (.getfield 142, 3) := dq_180 (b1 := 0) (b2 := 142) (by decide +kernel) (by decide)
theorem dX8_undo_15 : decode cX8_undo 15 = .ok (.iconst 1, 1) := dq_4 (by decide +kernel)
theorem dX8_undo_16 : decode cX8_undo 16 = .ok (.isub, 1) := dq_100 (by decide +kernel)
theorem dX8_undo_17 : decode cX8_undo 17 = .ok (.putfield 142, 3) := dq_181 (b1 := 0) (b2 := 142) (by decide +kernel) (by decide)
theorem dX8_undo_20 : decode cX8_undo 20 = .ok (.iconst 0, 1) := dq_3 (by decide +kernel)
theorem dX8_undo_21 : decode cX8_undo 21 = .ok (.istore_n 1, 1) := dq_60 (by decide +kernel)
theorem dX8_undo_22 : decode cX8_undo 22 = .ok (.iload_n 1, 1) := dq_27 (by decide +kernel)
theorem dX8_undo_23 : decode cX8_undo 23 = .ok (.bipush 38, 2) := dq_16 (b1 := 38) (by decide +kernel) (by decide)
theorem dX8_undo_25 : decode cX8_undo 25 = .ok (.if_icmp .ge 29, 3) := dq_162 (b1 := 0) (b2 := 29) (by decide +kernel) (by decide)
theorem dX8_undo_28 : decode cX8_undo 28 = .ok (.aload_n 0, 1) := dq_42 (by decide +kernel)
theorem dX8_undo_29 : decode cX8_undo 29 = .ok (.getfield 19, 3) := dq_180 (b1 := 0) (b2 := 19) (by decide +kernel) (by decide)
theorem dX8_undo_32 : decode cX8_undo 32 = .ok (.iload_n 1, 1) := dq_27 (by decide +kernel)
theorem dX8_undo_33 : decode cX8_undo 33 = .ok (.aload_n 0, 1) := dq_42 (by decide +kernel)
theorem dX8_undo_34 : decode cX8_undo 34 = .ok (.getfield 31, 3) := dq_180 (b1 := 0) (b2 := 31) (by decide +kernel) (by decide)
theorem dX8_undo_37 : decode cX8_undo 37 = .ok (.bipush 38, 2) := dq_16 (b1 := 38) (by decide +kernel) (by decide)
theorem dX8_undo_39 : decode cX8_undo 39 = .ok (.aload_n 0, 1) := dq_42 (by decide +kernel)
theorem dX8_undo_4 : decode cX8_undo 4 = .ok (.ifCond .ne 6, 3) := dq_154 (b1 := 0) (b2 := 6) (by decide +kernel) (by decide)
theorem dX8_undo_40 : decode cX8_undo 40 = .ok (.getfield 142, 3) := dq_180 (b1 := 0) (b2 := 142) (by decide +kernel) (by decide)
theorem dX8_undo_43 : decode cX8_undo 43 = .ok (.imul, 1) := dq_104 (by decide +kernel)
theorem dX8_undo_44 : decode cX8_undo 44 = .ok (.iload_n 1, 1) := dq_27 (by decide +kernel)
theorem dX8_undo_45 : decode cX8_undo 45 = .ok (.iadd, 1) := dq_96 (by decide +kernel)
theorem dX8_undo_46 : decode cX8_undo 46 = .ok (.iaload, 1) := dq_46 (by decide +kernel)
theorem dX8_undo_47 : decode cX8_undo 47 = .ok (.iastore, 1) := dq_79 (by decide +kernel)
theorem dX8_undo_48 : decode cX8_undo 48 = .ok (.iinc 1 1, 3) := dq_132 (b1 := 1) (b2 := 1) (by decide +kernel) (by decide) (by decide)
theorem dX8_undo_51 : decode cX8_undo 51 = .ok (.goto (-29), 3) := dq_167 (b1 := 255) (b2 := 227) (by decide +kernel) (by decide)
theorem dX8_undo_54 : decode cX8_undo 54 = .ok (.aload_n 0, 1) := dq_42 (by decide +kernel)
theorem dX8_undo_55 : decode cX8_undo 55 = .ok (.getfield 142, 3) := dq_180 (b1 := 0) (b2 := 142) (by decide +kernel) (by decide)
theorem dX8_undo_58 : decode cX8_undo 58 = .ok (.ireturn, 1) := dq_172 (by decide +kernel)
theorem dX8_undo_7 : decode cX8_undo 7 = .ok (.ldc 161, 2) := dq_18 (b1 := 161) (by decide +kernel) (by decide)
theorem dX8_undo_9 : decode cX8_undo 9 = .ok (.ireturn, 1) := dq_172 (by decide +kernel)
theorem dX8_wind_0 : decode cX8_wind 0 = .ok (.iload_n 1, 1) := dq_27 (by decide +kernel)
theorem dX8_wind_1 : decode cX8_wind 1 = .ok (.i2l, 1) := dq_133 (by decide +kernel)
theorem dX8_wind_10 : decode cX8_wind 10 = .ok (.isub, 1) := dq_100 (by decide +kernel)
theorem dX8_wind_11 : decode cX8_wind 11 = .ok (.i2l, 1) := dq_133 (by decide +kernel)
theorem dX8_wind_12 : decode cX8_wind 12 = .ok (.invokestatic 57, 3) := dq_184 (b1 := 0) (b2 := 57) (by decide +kernel) (by decide)
theorem dX8_wind_15 : decode cX8_wind 15 = .ok (.ifCond .eq 15, 3) := dq_153 (b1 := 0) (b2 := 15) (by decide +kernel) (by decide)
theorem dX8_wind_18 : decode cX8_wind 18 = .ok (.iload_n 2, 1) := dq_28 (by decide +kernel)
theorem dX8_wind_19 : decode cX8_wind 19 = .ok (.i2l, 1) := dq_133 (by decide +kernel)
theorem dX8_wind_2 : decode cX8_wind 2 = .ok (.lconst 0, 1) := dq_9 (by decide +kernel)
theorem dX8_wind_20 : decode cX8_wind 20 = .ok (.lconst 0, 1) := dq_9 (by decide +kernel)
theorem dX8_wind_21 : decode cX8_wind 21 = .ok (.ldc2_w 171, 3) := dq_20 (b1 := 0) (b2 := 171) (by decide +kernel) (by decide)
theorem dX8_wind_24 : decode cX8_wind 24 = .ok (.invokestatic 57, 3) := dq_184 (b1 := 0) (b2 := 57) (by decide +kernel) (by decide)
theorem dX8_wind_27 : decode cX8_wind 27 = .ok (.ifCond .ne 6, 3) := dq_154 (b1 := 0) (b2 := 6) (by decide +kernel) (by decide)
theorem dX8_wind_3 : decode cX8_wind 3 = .ok (.aload_n 0, 1) := dq_42 (by decide +kernel)
theorem dX8_wind_30 : decode cX8_wind 30 = .ok (.ldc 67, 2) := dq_18 (b1 := 67) (by decide +kernel) (by decide)
theorem dX8_wind_32 : decode cX8_wind 32 = .ok (.ireturn, 1) := dq_172 (by decide +kernel)
theorem dX8_wind_33 : decode cX8_wind 33 = .ok (.aload_n 0, 1) := dq_42 (by decide +kernel)
theorem dX8_wind_34 : decode cX8_wind 34 = .ok (.invokevirtual 164, 3) := dq_182 (b1 := 0) (b2 := 164) (by decide +kernel) (by decide)
theorem dX8_wind_37 : decode cX8_wind 37 = .ok (.aload_n 0, 1) := dq_42 (by decide +kernel)
theorem dX8_wind_38 : decode cX8_wind 38 = .ok (.getfield 19, 3) := dq_180 (b1 := 0) (b2 := 19) (by decide +kernel) (by decide)
theorem dX8_wind_4 : decode cX8_wind 4 = .ok (.getfield 19, 3) := dq_180 (b1 := 0) (b2 := 19) (by decide +kernel) (by decide)
theorem dX8_wind_41 : decode cX8_wind 41 = .ok (.bipush 8, 2) := dq_16 (b1 := 8) (by decide +kernel) (by decide)
theorem dX8_wind_43 : decode cX8_wind 43 = .ok (.iload_n 1, 1) := dq_27 (by decide +kernel)
theorem dX8_wind_44 : decode cX8_wind 44 = .ok (.iadd, 1) := dq_96 (by decide +kernel)
theorem dX8_wind_45 : decode cX8_wind 45 = .ok (.iaload, 1) := dq_46 (by decide +kernel)
theorem dX8_wind_46 : decode cX8_wind 46 = .ok (.istore_n 3, 1) := dq_62 (by decide +kernel)
theorem dX8_wind_47 : decode cX8_wind 47 = .ok (.aload_n 0, 1) := dq_42 (by decide +kernel)
theorem dX8_wind_48 : decode cX8_wind 48 = .ok (.getfield 19, 3) := dq_180 (b1 := 0) (b2 := 19) (by decide +kernel) (by decide)
theorem dX8_wind_51 : decode cX8_wind 51 = .ok (.bipush 8, 2) := dq_16 (b1 := 8) (by decide +kernel) (by decide)
theorem dX8_wind_53 : decode cX8_wind 53 = .ok (.iload_n 1, 1) := dq_27 (by decide +kernel)
theorem dX8_wind_54 : decode cX8_wind 54 = .ok (.iadd, 1) := dq_96 (by decide +kernel)
theorem dX8_wind_55 : decode cX8_wind 55 = .ok (.iload_n 2, 1) := dq_28 (by decide +kernel)
theorem dX8_wind_56 : decode cX8_wind 56 = .ok (.iastore, 1) := dq_79 (by decide +kernel)
theorem dX8_wind_57 : decode cX8_wind 57 = .ok (.iload_n 3, 1) := dq_29 (by decide +kernel)
theorem dX8_wind_58 : decode cX8_wind 58 = .ok (.ireturn, 1) := dq_172 (by decide +kernel)
theorem dX8_wind_7 : decode cX8_wind 7 = .ok (.iconst 3, 1) := dq_6 (by decide +kernel)
theorem dX8_wind_8 : decode cX8_wind 8 = .ok (.iaload, 1) := dq_46 (by decide +kernel)
theorem dX8_wind_9 : decode cX8_wind 9 = .ok (.iconst 1, 1) := dq_4 (by decide +kernel)
theorem mx_X8_cap_8 : Cond.code yX8_note cX8_note 2 none ∈ wsX8_cap := by unfold wsX8_cap; exact List.mem_cons_of_mem _ (List.mem_append_left _ (List.mem_of_getElem? (i := 7) rfl))
theorem mx_X8_cap_9 : Cond.fieldLink RX8 142 "MillTalkModel" "actMany" "I" ∈ wsX8_cap := by unfold wsX8_cap; exact List.mem_cons_of_mem _ (List.mem_append_left _ (List.mem_of_getElem? (i := 8) rfl))
theorem mx_X8_cap_10 : Cond.fieldLink RX8 31 "MillTalkModel" "acts" "[I" ∈ wsX8_cap := by unfold wsX8_cap; exact List.mem_cons_of_mem _ (List.mem_append_left _ (List.mem_of_getElem? (i := 9) rfl))
theorem mx_X8_cap_3 : Cond.fieldLink RX8 19 "MillTalkModel" "st" "[I" ∈ wsX8_cap := by unfold wsX8_cap; exact List.mem_cons_of_mem _ (List.mem_append_left _ (List.mem_of_getElem? (i := 2) rfl))
theorem mb_X8_cap_wsX80 {w : Cond} (h : w ∈ wsX80) : w ∈ wsX8_cap := by unfold wsX8_cap; exact List.mem_cons_of_mem _ (List.mem_append_right _ (h))
theorem ggX8_cap_X8_note : GoodIn wsX8_cap wsX8_note := goodIn_sub (by unfold wsX8_note; exact List.forall_mem_cons.mpr ⟨mx_X8_cap_8, List.forall_mem_append.mpr ⟨List.forall_mem_cons.mpr ⟨mx_X8_cap_9, List.forall_mem_cons.mpr ⟨mx_X8_cap_10, List.forall_mem_cons.mpr ⟨mx_X8_cap_3, fun _ h_ => absurd h_ List.not_mem_nil⟩⟩⟩, (fun _ h_ => mb_X8_cap_wsX80 h_)⟩⟩) (by decide +kernel)
theorem mx_X8_cap_4 : Cond.methodLink RX8 164 yX8_note ∈ wsX8_cap := by unfold wsX8_cap; exact List.mem_cons_of_mem _ (List.mem_append_left _ (List.mem_of_getElem? (i := 3) rfl))
theorem mx_X8_cap_5 : Cond.instanceMethod yX8_note ∈ wsX8_cap := by unfold wsX8_cap; exact List.mem_cons_of_mem _ (List.mem_append_left _ (List.mem_of_getElem? (i := 4) rfl))
theorem mx_X8_cap_6 : Cond.selects RX8 yX8_note yX8_note ∈ wsX8_cap := by unfold wsX8_cap; exact List.mem_cons_of_mem _ (List.mem_append_left _ (List.mem_of_getElem? (i := 5) rfl))
theorem mx_X8_cap_7 : Cond.initialized RX8 ∈ wsX8_cap := by unfold wsX8_cap; exact List.mem_cons_of_mem _ (List.mem_append_left _ (List.mem_of_getElem? (i := 6) rfl))
theorem gX8_cap_X8_note : GoodIn wsX8_cap (wsV RX8 164 RX8 yX8_note wsX8_note) := goodIn_app (goodIn_sub (List.forall_mem_cons.mpr ⟨mx_X8_cap_4, List.forall_mem_cons.mpr ⟨mx_X8_cap_5, List.forall_mem_cons.mpr ⟨mx_X8_cap_6, List.forall_mem_cons.mpr ⟨mx_X8_cap_7, fun _ h_ => absurd h_ List.not_mem_nil⟩⟩⟩⟩) (by decide +kernel)) ggX8_cap_X8_note
theorem mb_X8_hours_wsX8_hours_r1 {w : Cond} (h : w ∈ wsX8_hours_r1) : w ∈ wsX8_hours := by unfold wsX8_hours; exact List.mem_cons_of_mem _ (List.mem_append_left _ (List.mem_append_left _ (h)))
theorem mx_X8_hours_10 : Cond.code yX8_in cX8_in 6 (some .boolean) ∈ wsX8_hours := mb_X8_hours_wsX8_hours_r1 (List.mem_of_getElem? (i := 9) rfl)
theorem ggX8_hours_X8_in : GoodIn wsX8_hours wsX8_in := goodIn_sub (by unfold wsX8_in; exact List.forall_mem_cons.mpr ⟨mx_X8_hours_10, fun _ h_ => absurd h_ List.not_mem_nil⟩) (by decide +kernel)
set_option maxRecDepth 20000 in
theorem gX8_hours_X8_in : GoodIn wsX8_hours (va_wsS RX8 57 yX8_in wsX8_in) := goodIn_app (goodIn_of _ (by decide +kernel)) ggX8_hours_X8_in
theorem mx_X8_hours_14 : Cond.code yX8_note cX8_note 2 none ∈ wsX8_hours := mb_X8_hours_wsX8_hours_r1 (List.mem_of_getElem? (i := 13) rfl)
theorem mx_X8_hours_15 : Cond.fieldLink RX8 142 "MillTalkModel" "actMany" "I" ∈ wsX8_hours := mb_X8_hours_wsX8_hours_r1 (List.mem_of_getElem? (i := 14) rfl)
theorem mx_X8_hours_16 : Cond.fieldLink RX8 31 "MillTalkModel" "acts" "[I" ∈ wsX8_hours := mb_X8_hours_wsX8_hours_r1 (List.mem_of_getElem? (i := 15) rfl)
theorem mx_X8_hours_5 : Cond.fieldLink RX8 19 "MillTalkModel" "st" "[I" ∈ wsX8_hours := mb_X8_hours_wsX8_hours_r1 (List.mem_of_getElem? (i := 4) rfl)
theorem mb_X8_hours_wsX80 {w : Cond} (h : w ∈ wsX80) : w ∈ wsX8_hours := by unfold wsX8_hours; exact List.mem_cons_of_mem _ (List.mem_append_right _ (h))
theorem ggX8_hours_X8_note : GoodIn wsX8_hours wsX8_note := goodIn_sub (by unfold wsX8_note; exact List.forall_mem_cons.mpr ⟨mx_X8_hours_14, List.forall_mem_append.mpr ⟨List.forall_mem_cons.mpr ⟨mx_X8_hours_15, List.forall_mem_cons.mpr ⟨mx_X8_hours_16, List.forall_mem_cons.mpr ⟨mx_X8_hours_5, fun _ h_ => absurd h_ List.not_mem_nil⟩⟩⟩, (fun _ h_ => mb_X8_hours_wsX80 h_)⟩⟩) (by decide +kernel)
theorem mx_X8_hours_11 : Cond.methodLink RX8 164 yX8_note ∈ wsX8_hours := mb_X8_hours_wsX8_hours_r1 (List.mem_of_getElem? (i := 10) rfl)
theorem mx_X8_hours_12 : Cond.instanceMethod yX8_note ∈ wsX8_hours := mb_X8_hours_wsX8_hours_r1 (List.mem_of_getElem? (i := 11) rfl)
theorem mx_X8_hours_13 : Cond.selects RX8 yX8_note yX8_note ∈ wsX8_hours := mb_X8_hours_wsX8_hours_r1 (List.mem_of_getElem? (i := 12) rfl)
theorem mx_X8_hours_9 : Cond.initialized RX8 ∈ wsX8_hours := mb_X8_hours_wsX8_hours_r1 (List.mem_of_getElem? (i := 8) rfl)
theorem gX8_hours_X8_note : GoodIn wsX8_hours (wsV RX8 164 RX8 yX8_note wsX8_note) := goodIn_app (goodIn_sub (List.forall_mem_cons.mpr ⟨mx_X8_hours_11, List.forall_mem_cons.mpr ⟨mx_X8_hours_12, List.forall_mem_cons.mpr ⟨mx_X8_hours_13, List.forall_mem_cons.mpr ⟨mx_X8_hours_9, fun _ h_ => absurd h_ List.not_mem_nil⟩⟩⟩⟩) (by decide +kernel)) ggX8_hours_X8_note
theorem mx_X8_hours_20 : Cond.code yX8_oneHour cX8_oneHour 4 (some .int) ∈ wsX8_hours := mb_X8_hours_wsX8_hours_r1 (List.mem_of_getElem? (i := 19) rfl)
theorem mx_X8_hours_21 : Cond.methodLink RX8 151 yX8_gustOf ∈ wsX8_hours := mb_X8_hours_wsX8_hours_r1 (List.mem_of_getElem? (i := 20) rfl)
theorem mx_X8_hours_22 : Cond.instanceMethod yX8_gustOf ∈ wsX8_hours := mb_X8_hours_wsX8_hours_r1 (List.mem_of_getElem? (i := 21) rfl)
theorem mx_X8_hours_23 : Cond.selects RX8 yX8_gustOf yX8_gustOf ∈ wsX8_hours := mb_X8_hours_wsX8_hours_r1 (List.mem_of_getElem? (i := 22) rfl)
theorem mx_X8_hours_24 : Cond.code yX8_gustOf cX8_gustOf 2 (some .int) ∈ wsX8_hours := mb_X8_hours_wsX8_hours_r1 (List.mem_of_getElem? (i := 23) rfl)
theorem mb_X8_hours_wsX8_hours_r2 {w : Cond} (h : w ∈ wsX8_hours_r2) : w ∈ wsX8_hours := by unfold wsX8_hours; exact List.mem_cons_of_mem _ (List.mem_append_left _ (List.mem_append_right _ (h)))
theorem mx_X8_hours_25 : Cond.methodLink RX8 154 yX8_drift ∈ wsX8_hours := mb_X8_hours_wsX8_hours_r2 (List.mem_of_getElem? (i := 0) rfl)
theorem mx_X8_hours_26 : Cond.instanceMethod yX8_drift ∈ wsX8_hours := mb_X8_hours_wsX8_hours_r2 (List.mem_of_getElem? (i := 1) rfl)
theorem mx_X8_hours_27 : Cond.selects RX8 yX8_drift yX8_drift ∈ wsX8_hours := mb_X8_hours_wsX8_hours_r2 (List.mem_of_getElem? (i := 2) rfl)
theorem mx_X8_hours_28 : Cond.code yX8_drift cX8_drift 7 none ∈ wsX8_hours := mb_X8_hours_wsX8_hours_r2 (List.mem_of_getElem? (i := 3) rfl)
theorem mx_X8_hours_29 : Cond.methodLink RX8 145 yX8_drifts ∈ wsX8_hours := mb_X8_hours_wsX8_hours_r2 (List.mem_of_getElem? (i := 4) rfl)
theorem mx_X8_hours_30 : Cond.static yX8_drifts ∈ wsX8_hours := mb_X8_hours_wsX8_hours_r2 (List.mem_of_getElem? (i := 5) rfl)
theorem mx_X8_hours_31 : Cond.code yX8_drifts cX8_drifts 2 (some .int) ∈ wsX8_hours := mb_X8_hours_wsX8_hours_r2 (List.mem_of_getElem? (i := 6) rfl)
theorem mx_X8_hours_32 : Cond.methodLink RX8 148 yX8_isCell ∈ wsX8_hours := mb_X8_hours_wsX8_hours_r2 (List.mem_of_getElem? (i := 7) rfl)
theorem mx_X8_hours_33 : Cond.instanceMethod yX8_isCell ∈ wsX8_hours := mb_X8_hours_wsX8_hours_r2 (List.mem_of_getElem? (i := 8) rfl)
theorem mx_X8_hours_34 : Cond.selects RX8 yX8_isCell yX8_isCell ∈ wsX8_hours := mb_X8_hours_wsX8_hours_r2 (List.mem_of_getElem? (i := 9) rfl)
theorem mx_X8_hours_35 : Cond.code yX8_isCell cX8_isCell 2 (some .boolean) ∈ wsX8_hours := mb_X8_hours_wsX8_hours_r2 (List.mem_of_getElem? (i := 10) rfl)
theorem mx_X8_hours_7 : Cond.methodLink RX8 57 yX8_in ∈ wsX8_hours := mb_X8_hours_wsX8_hours_r1 (List.mem_of_getElem? (i := 6) rfl)
theorem mx_X8_hours_8 : Cond.static yX8_in ∈ wsX8_hours := mb_X8_hours_wsX8_hours_r1 (List.mem_of_getElem? (i := 7) rfl)
theorem mx_X8_hours_36 : Cond.methodLink RX8 158 yX8_isAtMill ∈ wsX8_hours := mb_X8_hours_wsX8_hours_r2 (List.mem_of_getElem? (i := 11) rfl)
theorem mx_X8_hours_37 : Cond.instanceMethod yX8_isAtMill ∈ wsX8_hours := mb_X8_hours_wsX8_hours_r2 (List.mem_of_getElem? (i := 12) rfl)
theorem mx_X8_hours_38 : Cond.selects RX8 yX8_isAtMill yX8_isAtMill ∈ wsX8_hours := mb_X8_hours_wsX8_hours_r2 (List.mem_of_getElem? (i := 13) rfl)
theorem mx_X8_hours_39 : Cond.code yX8_isAtMill cX8_isAtMill 3 (some .boolean) ∈ wsX8_hours := mb_X8_hours_wsX8_hours_r2 (List.mem_of_getElem? (i := 14) rfl)
theorem ggX8_hours_X8_oneHour : GoodIn wsX8_hours wsX8_oneHour := goodIn_sub (by unfold wsX8_oneHour; exact List.forall_mem_cons.mpr ⟨mx_X8_hours_20, List.forall_mem_append.mpr ⟨List.forall_mem_cons.mpr ⟨mx_X8_hours_5, List.forall_mem_cons.mpr ⟨mx_X8_hours_21, List.forall_mem_cons.mpr ⟨mx_X8_hours_22, List.forall_mem_cons.mpr ⟨mx_X8_hours_23, List.forall_mem_cons.mpr ⟨mx_X8_hours_9, List.forall_mem_cons.mpr ⟨mx_X8_hours_24, List.forall_mem_cons.mpr ⟨mx_X8_hours_25, List.forall_mem_cons.mpr ⟨mx_X8_hours_26, List.forall_mem_cons.mpr ⟨mx_X8_hours_27, List.forall_mem_cons.mpr ⟨mx_X8_hours_28, List.forall_mem_cons.mpr ⟨mx_X8_hours_29, List.forall_mem_cons.mpr ⟨mx_X8_hours_30, List.forall_mem_cons.mpr ⟨mx_X8_hours_31, List.forall_mem_cons.mpr ⟨mx_X8_hours_32, List.forall_mem_cons.mpr ⟨mx_X8_hours_33, List.forall_mem_cons.mpr ⟨mx_X8_hours_34, List.forall_mem_cons.mpr ⟨mx_X8_hours_35, List.forall_mem_cons.mpr ⟨mx_X8_hours_7, List.forall_mem_cons.mpr ⟨mx_X8_hours_8, List.forall_mem_cons.mpr ⟨mx_X8_hours_10, List.forall_mem_cons.mpr ⟨mx_X8_hours_36, List.forall_mem_cons.mpr ⟨mx_X8_hours_37, List.forall_mem_cons.mpr ⟨mx_X8_hours_38, List.forall_mem_cons.mpr ⟨mx_X8_hours_39, fun _ h_ => absurd h_ List.not_mem_nil⟩⟩⟩⟩⟩⟩⟩⟩⟩⟩⟩⟩⟩⟩⟩⟩⟩⟩⟩⟩⟩⟩⟩⟩, (fun _ h_ => mb_X8_hours_wsX80 h_)⟩⟩) (by decide +kernel)
theorem mx_X8_hours_17 : Cond.methodLink RX8 167 yX8_oneHour ∈ wsX8_hours := mb_X8_hours_wsX8_hours_r1 (List.mem_of_getElem? (i := 16) rfl)
theorem mx_X8_hours_18 : Cond.instanceMethod yX8_oneHour ∈ wsX8_hours := mb_X8_hours_wsX8_hours_r1 (List.mem_of_getElem? (i := 17) rfl)
theorem mx_X8_hours_19 : Cond.selects RX8 yX8_oneHour yX8_oneHour ∈ wsX8_hours := mb_X8_hours_wsX8_hours_r1 (List.mem_of_getElem? (i := 18) rfl)
theorem gX8_hours_X8_oneHour : GoodIn wsX8_hours (wsV RX8 167 RX8 yX8_oneHour wsX8_oneHour) := goodIn_app (goodIn_sub (List.forall_mem_cons.mpr ⟨mx_X8_hours_17, List.forall_mem_cons.mpr ⟨mx_X8_hours_18, List.forall_mem_cons.mpr ⟨mx_X8_hours_19, List.forall_mem_cons.mpr ⟨mx_X8_hours_9, fun _ h_ => absurd h_ List.not_mem_nil⟩⟩⟩⟩) (by decide +kernel)) ggX8_hours_X8_oneHour
theorem mb_X8_loose_wsX8_loose_r1 {w : Cond} (h : w ∈ wsX8_loose_r1) : w ∈ wsX8_loose := by unfold wsX8_loose; exact List.mem_cons_of_mem _ (List.mem_append_left _ (List.mem_append_left _ (h)))
theorem mx_X8_loose_12 : Cond.code yX8_in cX8_in 6 (some .boolean) ∈ wsX8_loose := mb_X8_loose_wsX8_loose_r1 (List.mem_of_getElem? (i := 11) rfl)
theorem ggX8_loose_X8_in : GoodIn wsX8_loose wsX8_in := goodIn_sub (by unfold wsX8_in; exact List.forall_mem_cons.mpr ⟨mx_X8_loose_12, fun _ h_ => absurd h_ List.not_mem_nil⟩) (by decide +kernel)
set_option maxRecDepth 20000 in
theorem gX8_loose_X8_in : GoodIn wsX8_loose (va_wsS RX8 57 yX8_in wsX8_in) := goodIn_app (goodIn_of _ (by decide +kernel)) ggX8_loose_X8_in
theorem mx_X8_loose_16 : Cond.code yX8_isCell cX8_isCell 2 (some .boolean) ∈ wsX8_loose := mb_X8_loose_wsX8_loose_r1 (List.mem_of_getElem? (i := 15) rfl)
theorem mx_X8_loose_3 : Cond.fieldLink RX8 19 "MillTalkModel" "st" "[I" ∈ wsX8_loose := mb_X8_loose_wsX8_loose_r1 (List.mem_of_getElem? (i := 2) rfl)
theorem mx_X8_loose_10 : Cond.methodLink RX8 57 yX8_in ∈ wsX8_loose := mb_X8_loose_wsX8_loose_r1 (List.mem_of_getElem? (i := 9) rfl)
theorem mx_X8_loose_11 : Cond.static yX8_in ∈ wsX8_loose := mb_X8_loose_wsX8_loose_r1 (List.mem_of_getElem? (i := 10) rfl)
theorem mx_X8_loose_8 : Cond.initialized RX8 ∈ wsX8_loose := mb_X8_loose_wsX8_loose_r1 (List.mem_of_getElem? (i := 7) rfl)
theorem mb_X8_loose_wsX80 {w : Cond} (h : w ∈ wsX80) : w ∈ wsX8_loose := by unfold wsX8_loose; exact List.mem_cons_of_mem _ (List.mem_append_right _ (h))
theorem ggX8_loose_X8_isCell : GoodIn wsX8_loose wsX8_isCell := goodIn_sub (by unfold wsX8_isCell; exact List.forall_mem_cons.mpr ⟨mx_X8_loose_16, List.forall_mem_append.mpr ⟨List.forall_mem_cons.mpr ⟨mx_X8_loose_3, List.forall_mem_cons.mpr ⟨mx_X8_loose_10, List.forall_mem_cons.mpr ⟨mx_X8_loose_11, List.forall_mem_cons.mpr ⟨mx_X8_loose_8, List.forall_mem_cons.mpr ⟨mx_X8_loose_12, fun _ h_ => absurd h_ List.not_mem_nil⟩⟩⟩⟩⟩, (fun _ h_ => mb_X8_loose_wsX80 h_)⟩⟩) (by decide +kernel)
theorem mx_X8_loose_13 : Cond.methodLink RX8 148 yX8_isCell ∈ wsX8_loose := mb_X8_loose_wsX8_loose_r1 (List.mem_of_getElem? (i := 12) rfl)
theorem mx_X8_loose_14 : Cond.instanceMethod yX8_isCell ∈ wsX8_loose := mb_X8_loose_wsX8_loose_r1 (List.mem_of_getElem? (i := 13) rfl)
theorem mx_X8_loose_15 : Cond.selects RX8 yX8_isCell yX8_isCell ∈ wsX8_loose := mb_X8_loose_wsX8_loose_r1 (List.mem_of_getElem? (i := 14) rfl)
theorem gX8_loose_X8_isCell : GoodIn wsX8_loose (wsV RX8 148 RX8 yX8_isCell wsX8_isCell) := goodIn_app (goodIn_sub (List.forall_mem_cons.mpr ⟨mx_X8_loose_13, List.forall_mem_cons.mpr ⟨mx_X8_loose_14, List.forall_mem_cons.mpr ⟨mx_X8_loose_15, List.forall_mem_cons.mpr ⟨mx_X8_loose_8, fun _ h_ => absurd h_ List.not_mem_nil⟩⟩⟩⟩) (by decide +kernel)) ggX8_loose_X8_isCell
theorem mx_X8_loose_9 : Cond.code yX8_isSound cX8_isSound 2 (some .boolean) ∈ wsX8_loose := mb_X8_loose_wsX8_loose_r1 (List.mem_of_getElem? (i := 8) rfl)
theorem ggX8_loose_X8_isSound : GoodIn wsX8_loose wsX8_isSound := goodIn_sub (by unfold wsX8_isSound; exact List.forall_mem_cons.mpr ⟨mx_X8_loose_9, List.forall_mem_append.mpr ⟨List.forall_mem_cons.mpr ⟨mx_X8_loose_3, List.forall_mem_cons.mpr ⟨mx_X8_loose_10, List.forall_mem_cons.mpr ⟨mx_X8_loose_11, List.forall_mem_cons.mpr ⟨mx_X8_loose_8, List.forall_mem_cons.mpr ⟨mx_X8_loose_12, fun _ h_ => absurd h_ List.not_mem_nil⟩⟩⟩⟩⟩, (fun _ h_ => mb_X8_loose_wsX80 h_)⟩⟩) (by decide +kernel)
theorem mx_X8_loose_5 : Cond.methodLink RX8 173 yX8_isSound ∈ wsX8_loose := mb_X8_loose_wsX8_loose_r1 (List.mem_of_getElem? (i := 4) rfl)
theorem mx_X8_loose_6 : Cond.instanceMethod yX8_isSound ∈ wsX8_loose := mb_X8_loose_wsX8_loose_r1 (List.mem_of_getElem? (i := 5) rfl)
theorem mx_X8_loose_7 : Cond.selects RX8 yX8_isSound yX8_isSound ∈ wsX8_loose := mb_X8_loose_wsX8_loose_r1 (List.mem_of_getElem? (i := 6) rfl)
theorem gX8_loose_X8_isSound : GoodIn wsX8_loose (wsV RX8 173 RX8 yX8_isSound wsX8_isSound) := goodIn_app (goodIn_sub (List.forall_mem_cons.mpr ⟨mx_X8_loose_5, List.forall_mem_cons.mpr ⟨mx_X8_loose_6, List.forall_mem_cons.mpr ⟨mx_X8_loose_7, List.forall_mem_cons.mpr ⟨mx_X8_loose_8, fun _ h_ => absurd h_ List.not_mem_nil⟩⟩⟩⟩) (by decide +kernel)) ggX8_loose_X8_isSound
theorem mb_X8_loose_wsX8_loose_r2 {w : Cond} (h : w ∈ wsX8_loose_r2) : w ∈ wsX8_loose := by unfold wsX8_loose; exact List.mem_cons_of_mem _ (List.mem_append_left _ (List.mem_append_right _ (h)))
theorem mx_X8_loose_26 : Cond.code yX8_letLoose cX8_letLoose 4 none ∈ wsX8_loose := mb_X8_loose_wsX8_loose_r2 (List.mem_of_getElem? (i := 1) rfl)
theorem ggX8_loose_X8_letLoose : GoodIn wsX8_loose wsX8_letLoose := goodIn_sub (by unfold wsX8_letLoose; exact List.forall_mem_cons.mpr ⟨mx_X8_loose_26, List.forall_mem_append.mpr ⟨List.forall_mem_cons.mpr ⟨mx_X8_loose_3, fun _ h_ => absurd h_ List.not_mem_nil⟩, (fun _ h_ => mb_X8_loose_wsX80 h_)⟩⟩) (by decide +kernel)
theorem mx_X8_loose_23 : Cond.methodLink RX8 178 yX8_letLoose ∈ wsX8_loose := mb_X8_loose_wsX8_loose_r1 (List.mem_of_getElem? (i := 22) rfl)
theorem mx_X8_loose_24 : Cond.instanceMethod yX8_letLoose ∈ wsX8_loose := mb_X8_loose_wsX8_loose_r1 (List.mem_of_getElem? (i := 23) rfl)
theorem mx_X8_loose_25 : Cond.selects RX8 yX8_letLoose yX8_letLoose ∈ wsX8_loose := mb_X8_loose_wsX8_loose_r2 (List.mem_of_getElem? (i := 0) rfl)
theorem gX8_loose_X8_letLoose : GoodIn wsX8_loose (wsV RX8 178 RX8 yX8_letLoose wsX8_letLoose) := goodIn_app (goodIn_sub (List.forall_mem_cons.mpr ⟨mx_X8_loose_23, List.forall_mem_cons.mpr ⟨mx_X8_loose_24, List.forall_mem_cons.mpr ⟨mx_X8_loose_25, List.forall_mem_cons.mpr ⟨mx_X8_loose_8, fun _ h_ => absurd h_ List.not_mem_nil⟩⟩⟩⟩) (by decide +kernel)) ggX8_loose_X8_letLoose
theorem mx_X8_loose_20 : Cond.code yX8_note cX8_note 2 none ∈ wsX8_loose := mb_X8_loose_wsX8_loose_r1 (List.mem_of_getElem? (i := 19) rfl)
theorem mx_X8_loose_21 : Cond.fieldLink RX8 142 "MillTalkModel" "actMany" "I" ∈ wsX8_loose := mb_X8_loose_wsX8_loose_r1 (List.mem_of_getElem? (i := 20) rfl)
theorem mx_X8_loose_22 : Cond.fieldLink RX8 31 "MillTalkModel" "acts" "[I" ∈ wsX8_loose := mb_X8_loose_wsX8_loose_r1 (List.mem_of_getElem? (i := 21) rfl)
theorem ggX8_loose_X8_note : GoodIn wsX8_loose wsX8_note := goodIn_sub (by unfold wsX8_note; exact List.forall_mem_cons.mpr ⟨mx_X8_loose_20, List.forall_mem_append.mpr ⟨List.forall_mem_cons.mpr ⟨mx_X8_loose_21, List.forall_mem_cons.mpr ⟨mx_X8_loose_22, List.forall_mem_cons.mpr ⟨mx_X8_loose_3, fun _ h_ => absurd h_ List.not_mem_nil⟩⟩⟩, (fun _ h_ => mb_X8_loose_wsX80 h_)⟩⟩) (by decide +kernel)
theorem mx_X8_loose_17 : Cond.methodLink RX8 164 yX8_note ∈ wsX8_loose := mb_X8_loose_wsX8_loose_r1 (List.mem_of_getElem? (i := 16) rfl)
theorem mx_X8_loose_18 : Cond.instanceMethod yX8_note ∈ wsX8_loose := mb_X8_loose_wsX8_loose_r1 (List.mem_of_getElem? (i := 17) rfl)
theorem mx_X8_loose_19 : Cond.selects RX8 yX8_note yX8_note ∈ wsX8_loose := mb_X8_loose_wsX8_loose_r1 (List.mem_of_getElem? (i := 18) rfl)
theorem gX8_loose_X8_note : GoodIn wsX8_loose (wsV RX8 164 RX8 yX8_note wsX8_note) := goodIn_app (goodIn_sub (List.forall_mem_cons.mpr ⟨mx_X8_loose_17, List.forall_mem_cons.mpr ⟨mx_X8_loose_18, List.forall_mem_cons.mpr ⟨mx_X8_loose_19, List.forall_mem_cons.mpr ⟨mx_X8_loose_8, fun _ h_ => absurd h_ List.not_mem_nil⟩⟩⟩⟩) (by decide +kernel)) ggX8_loose_X8_note
theorem mx_X8_loose_30 : Cond.code yX8_those cX8_those 4 (some .int) ∈ wsX8_loose := mb_X8_loose_wsX8_loose_r2 (List.mem_of_getElem? (i := 5) rfl)
theorem ggX8_loose_X8_those : GoodIn wsX8_loose wsX8_those := goodIn_sub (by unfold wsX8_those; exact List.forall_mem_cons.mpr ⟨mx_X8_loose_30, List.forall_mem_append.mpr ⟨List.forall_mem_cons.mpr ⟨mx_X8_loose_3, fun _ h_ => absurd h_ List.not_mem_nil⟩, (fun _ h_ => mb_X8_loose_wsX80 h_)⟩⟩) (by decide +kernel)
theorem mx_X8_loose_27 : Cond.methodLink RX8 182 yX8_those ∈ wsX8_loose := mb_X8_loose_wsX8_loose_r2 (List.mem_of_getElem? (i := 2) rfl)
theorem mx_X8_loose_28 : Cond.instanceMethod yX8_those ∈ wsX8_loose := mb_X8_loose_wsX8_loose_r2 (List.mem_of_getElem? (i := 3) rfl)
theorem mx_X8_loose_29 : Cond.selects RX8 yX8_those yX8_those ∈ wsX8_loose := mb_X8_loose_wsX8_loose_r2 (List.mem_of_getElem? (i := 4) rfl)
theorem gX8_loose_X8_those : GoodIn wsX8_loose (wsV RX8 182 RX8 yX8_those wsX8_those) := goodIn_app (goodIn_sub (List.forall_mem_cons.mpr ⟨mx_X8_loose_27, List.forall_mem_cons.mpr ⟨mx_X8_loose_28, List.forall_mem_cons.mpr ⟨mx_X8_loose_29, List.forall_mem_cons.mpr ⟨mx_X8_loose_8, fun _ h_ => absurd h_ List.not_mem_nil⟩⟩⟩⟩) (by decide +kernel)) ggX8_loose_X8_those
theorem mx_X8_sell_9 : Cond.code yX8_in cX8_in 6 (some .boolean) ∈ wsX8_sell := by unfold wsX8_sell; exact List.mem_cons_of_mem _ (List.mem_append_left _ (List.mem_of_getElem? (i := 8) rfl))
theorem ggX8_sell_X8_in : GoodIn wsX8_sell wsX8_in := goodIn_sub (by unfold wsX8_in; exact List.forall_mem_cons.mpr ⟨mx_X8_sell_9, fun _ h_ => absurd h_ List.not_mem_nil⟩) (by decide +kernel)
set_option maxRecDepth 20000 in
theorem gX8_sell_X8_in : GoodIn wsX8_sell (va_wsS RX8 57 yX8_in wsX8_in) := goodIn_app (goodIn_of _ (by decide +kernel)) ggX8_sell_X8_in
theorem mx_X8_sell_13 : Cond.code yX8_note cX8_note 2 none ∈ wsX8_sell := by unfold wsX8_sell; exact List.mem_cons_of_mem _ (List.mem_append_left _ (List.mem_of_getElem? (i := 12) rfl))
theorem mx_X8_sell_14 : Cond.fieldLink RX8 142 "MillTalkModel" "actMany" "I" ∈ wsX8_sell := by unfold wsX8_sell; exact List.mem_cons_of_mem _ (List.mem_append_left _ (List.mem_of_getElem? (i := 13) rfl))
theorem mx_X8_sell_15 : Cond.fieldLink RX8 31 "MillTalkModel" "acts" "[I" ∈ wsX8_sell := by unfold wsX8_sell; exact List.mem_cons_of_mem _ (List.mem_append_left _ (List.mem_of_getElem? (i := 14) rfl))
theorem mx_X8_sell_5 : Cond.fieldLink RX8 19 "MillTalkModel" "st" "[I" ∈ wsX8_sell := by unfold wsX8_sell; exact List.mem_cons_of_mem _ (List.mem_append_left _ (List.mem_of_getElem? (i := 4) rfl))
theorem mb_X8_sell_wsX80 {w : Cond} (h : w ∈ wsX80) : w ∈ wsX8_sell := by unfold wsX8_sell; exact List.mem_cons_of_mem _ (List.mem_append_right _ (h))
theorem ggX8_sell_X8_note : GoodIn wsX8_sell wsX8_note := goodIn_sub (by unfold wsX8_note; exact List.forall_mem_cons.mpr ⟨mx_X8_sell_13, List.forall_mem_append.mpr ⟨List.forall_mem_cons.mpr ⟨mx_X8_sell_14, List.forall_mem_cons.mpr ⟨mx_X8_sell_15, List.forall_mem_cons.mpr ⟨mx_X8_sell_5, fun _ h_ => absurd h_ List.not_mem_nil⟩⟩⟩, (fun _ h_ => mb_X8_sell_wsX80 h_)⟩⟩) (by decide +kernel)
theorem mx_X8_sell_10 : Cond.methodLink RX8 164 yX8_note ∈ wsX8_sell := by unfold wsX8_sell; exact List.mem_cons_of_mem _ (List.mem_append_left _ (List.mem_of_getElem? (i := 9) rfl))
theorem mx_X8_sell_11 : Cond.instanceMethod yX8_note ∈ wsX8_sell := by unfold wsX8_sell; exact List.mem_cons_of_mem _ (List.mem_append_left _ (List.mem_of_getElem? (i := 10) rfl))
theorem mx_X8_sell_12 : Cond.selects RX8 yX8_note yX8_note ∈ wsX8_sell := by unfold wsX8_sell; exact List.mem_cons_of_mem _ (List.mem_append_left _ (List.mem_of_getElem? (i := 11) rfl))
theorem mx_X8_sell_8 : Cond.initialized RX8 ∈ wsX8_sell := by unfold wsX8_sell; exact List.mem_cons_of_mem _ (List.mem_append_left _ (List.mem_of_getElem? (i := 7) rfl))
theorem gX8_sell_X8_note : GoodIn wsX8_sell (wsV RX8 164 RX8 yX8_note wsX8_note) := goodIn_app (goodIn_sub (List.forall_mem_cons.mpr ⟨mx_X8_sell_10, List.forall_mem_cons.mpr ⟨mx_X8_sell_11, List.forall_mem_cons.mpr ⟨mx_X8_sell_12, List.forall_mem_cons.mpr ⟨mx_X8_sell_8, fun _ h_ => absurd h_ List.not_mem_nil⟩⟩⟩⟩) (by decide +kernel)) ggX8_sell_X8_note
theorem mx_X8_wind_7 : Cond.code yX8_in cX8_in 6 (some .boolean) ∈ wsX8_wind := by unfold wsX8_wind; exact List.mem_cons_of_mem _ (List.mem_append_left _ (List.mem_of_getElem? (i := 6) rfl))
theorem ggX8_wind_X8_in : GoodIn wsX8_wind wsX8_in := goodIn_sub (by unfold wsX8_in; exact List.forall_mem_cons.mpr ⟨mx_X8_wind_7, fun _ h_ => absurd h_ List.not_mem_nil⟩) (by decide +kernel)
set_option maxRecDepth 20000 in
theorem gX8_wind_X8_in : GoodIn wsX8_wind (va_wsS RX8 57 yX8_in wsX8_in) := goodIn_app (goodIn_of _ (by decide +kernel)) ggX8_wind_X8_in
theorem mx_X8_wind_11 : Cond.code yX8_note cX8_note 2 none ∈ wsX8_wind := by unfold wsX8_wind; exact List.mem_cons_of_mem _ (List.mem_append_left _ (List.mem_of_getElem? (i := 10) rfl))
theorem mx_X8_wind_12 : Cond.fieldLink RX8 142 "MillTalkModel" "actMany" "I" ∈ wsX8_wind := by unfold wsX8_wind; exact List.mem_cons_of_mem _ (List.mem_append_left _ (List.mem_of_getElem? (i := 11) rfl))
theorem mx_X8_wind_13 : Cond.fieldLink RX8 31 "MillTalkModel" "acts" "[I" ∈ wsX8_wind := by unfold wsX8_wind; exact List.mem_cons_of_mem _ (List.mem_append_left _ (List.mem_of_getElem? (i := 12) rfl))
theorem mx_X8_wind_1 : Cond.fieldLink RX8 19 "MillTalkModel" "st" "[I" ∈ wsX8_wind := by unfold wsX8_wind; exact List.mem_cons_of_mem _ (List.mem_append_left _ (List.mem_of_getElem? (i := 0) rfl))
theorem mb_X8_wind_wsX80 {w : Cond} (h : w ∈ wsX80) : w ∈ wsX8_wind := by unfold wsX8_wind; exact List.mem_cons_of_mem _ (List.mem_append_right _ (h))
theorem ggX8_wind_X8_note : GoodIn wsX8_wind wsX8_note := goodIn_sub (by unfold wsX8_note; exact List.forall_mem_cons.mpr ⟨mx_X8_wind_11, List.forall_mem_append.mpr ⟨List.forall_mem_cons.mpr ⟨mx_X8_wind_12, List.forall_mem_cons.mpr ⟨mx_X8_wind_13, List.forall_mem_cons.mpr ⟨mx_X8_wind_1, fun _ h_ => absurd h_ List.not_mem_nil⟩⟩⟩, (fun _ h_ => mb_X8_wind_wsX80 h_)⟩⟩) (by decide +kernel)
theorem mx_X8_wind_8 : Cond.methodLink RX8 164 yX8_note ∈ wsX8_wind := by unfold wsX8_wind; exact List.mem_cons_of_mem _ (List.mem_append_left _ (List.mem_of_getElem? (i := 7) rfl))
theorem mx_X8_wind_9 : Cond.instanceMethod yX8_note ∈ wsX8_wind := by unfold wsX8_wind; exact List.mem_cons_of_mem _ (List.mem_append_left _ (List.mem_of_getElem? (i := 8) rfl))
theorem mx_X8_wind_10 : Cond.selects RX8 yX8_note yX8_note ∈ wsX8_wind := by unfold wsX8_wind; exact List.mem_cons_of_mem _ (List.mem_append_left _ (List.mem_of_getElem? (i := 9) rfl))
theorem mx_X8_wind_6 : Cond.initialized RX8 ∈ wsX8_wind := by unfold wsX8_wind; exact List.mem_cons_of_mem _ (List.mem_append_left _ (List.mem_of_getElem? (i := 5) rfl))
theorem gX8_wind_X8_note : GoodIn wsX8_wind (wsV RX8 164 RX8 yX8_note wsX8_note) := goodIn_app (goodIn_sub (List.forall_mem_cons.mpr ⟨mx_X8_wind_8, List.forall_mem_cons.mpr ⟨mx_X8_wind_9, List.forall_mem_cons.mpr ⟨mx_X8_wind_10, List.forall_mem_cons.mpr ⟨mx_X8_wind_6, fun _ h_ => absurd h_ List.not_mem_nil⟩⟩⟩⟩) (by decide +kernel)) ggX8_wind_X8_note
theorem i_X8_cap_X8 : ∀ w ∈ u_ws RX8 TX8 24, w ∈ wsX8_cap := fun _ h_ => mb_X8_cap_wsX80 h_
theorem i_X8_hours_X8 : ∀ w ∈ u_ws RX8 TX8 24, w ∈ wsX8_hours := fun _ h_ => mb_X8_hours_wsX80 h_
theorem i_X8_loose_X8 : ∀ w ∈ u_ws RX8 TX8 24, w ∈ wsX8_loose := fun _ h_ => mb_X8_loose_wsX80 h_
theorem mb_X8_note_wsX80 {w : Cond} (h : w ∈ wsX80) : w ∈ wsX8_note := by unfold wsX8_note; exact List.mem_cons_of_mem _ (List.mem_append_right _ (h))
theorem i_X8_note_X8 : ∀ w ∈ u_ws RX8 TX8 24, w ∈ wsX8_note := fun _ h_ => mb_X8_note_wsX80 h_
theorem i_X8_sell_X8 : ∀ w ∈ u_ws RX8 TX8 24, w ∈ wsX8_sell := fun _ h_ => mb_X8_sell_wsX80 h_
theorem mb_X8_undo_wsX80 {w : Cond} (h : w ∈ wsX80) : w ∈ wsX8_undo := by unfold wsX8_undo; exact List.mem_cons_of_mem _ (List.mem_append_right _ (h))
theorem i_X8_undo_X8 : ∀ w ∈ u_ws RX8 TX8 24, w ∈ wsX8_undo := fun _ h_ => mb_X8_undo_wsX80 h_
theorem i_X8_wind_X8 : ∀ w ∈ u_ws RX8 TX8 24, w ∈ wsX8_wind := fun _ h_ => mb_X8_wind_wsX80 h_
theorem mx_X8_note_1 : Cond.fieldLink RX8 142 "MillTalkModel" "actMany" "I" ∈ wsX8_note := by unfold wsX8_note; exact List.mem_cons_of_mem _ (List.mem_append_left _ (List.mem_of_getElem? (i := 0) rfl))
theorem mx_X8_note_2 : Cond.fieldLink RX8 31 "MillTalkModel" "acts" "[I" ∈ wsX8_note := by unfold wsX8_note; exact List.mem_cons_of_mem _ (List.mem_append_left _ (List.mem_of_getElem? (i := 1) rfl))
theorem mx_X8_note_3 : Cond.fieldLink RX8 19 "MillTalkModel" "st" "[I" ∈ wsX8_note := by unfold wsX8_note; exact List.mem_cons_of_mem _ (List.mem_append_left _ (List.mem_of_getElem? (i := 2) rfl))
theorem mx_X8_cap_1 : Cond.fieldLink RX8 138 "MillTalkModel" "isThere" "Z" ∈ wsX8_cap := by unfold wsX8_cap; exact List.mem_cons_of_mem _ (List.mem_append_left _ (List.mem_of_getElem? (i := 0) rfl))
theorem mx_X8_cap_2 : Cond.constant RX8 161 (-1000002) ∈ wsX8_cap := by unfold wsX8_cap; exact List.mem_cons_of_mem _ (List.mem_append_left _ (List.mem_of_getElem? (i := 1) rfl))
theorem mx_X8_wind_3 : Cond.constant RX8 67 (-1000001) ∈ wsX8_wind := by unfold wsX8_wind; exact List.mem_cons_of_mem _ (List.mem_append_left _ (List.mem_of_getElem? (i := 2) rfl))
theorem mx_X8_wind_2 : Cond.constantLong RX8 171 (4) ∈ wsX8_wind := by unfold wsX8_wind; exact List.mem_cons_of_mem _ (List.mem_append_left _ (List.mem_of_getElem? (i := 1) rfl))
theorem mx_X8_loose_2 : Cond.constant RX8 67 (-1000001) ∈ wsX8_loose := mb_X8_loose_wsX8_loose_r1 (List.mem_of_getElem? (i := 1) rfl)
theorem mx_X8_loose_1 : Cond.constantLong RX8 176 (20) ∈ wsX8_loose := mb_X8_loose_wsX8_loose_r1 (List.mem_of_getElem? (i := 0) rfl)
theorem mx_X8_loose_4 : Cond.constant RX8 161 (-1000002) ∈ wsX8_loose := mb_X8_loose_wsX8_loose_r1 (List.mem_of_getElem? (i := 3) rfl)
theorem mx_X8_sell_1 : Cond.fieldLink RX8 138 "MillTalkModel" "isThere" "Z" ∈ wsX8_sell := by unfold wsX8_sell; exact List.mem_cons_of_mem _ (List.mem_append_left _ (List.mem_of_getElem? (i := 0) rfl))
theorem mx_X8_sell_3 : Cond.constantLong RX8 185 (999) ∈ wsX8_sell := by unfold wsX8_sell; exact List.mem_cons_of_mem _ (List.mem_append_left _ (List.mem_of_getElem? (i := 2) rfl))
theorem mx_X8_sell_4 : Cond.constant RX8 67 (-1000001) ∈ wsX8_sell := by unfold wsX8_sell; exact List.mem_cons_of_mem _ (List.mem_append_left _ (List.mem_of_getElem? (i := 3) rfl))
theorem mx_X8_sell_2 : Cond.constant RX8 161 (-1000002) ∈ wsX8_sell := by unfold wsX8_sell; exact List.mem_cons_of_mem _ (List.mem_append_left _ (List.mem_of_getElem? (i := 1) rfl))
theorem mx_X8_undo_1 : Cond.fieldLink RX8 142 "MillTalkModel" "actMany" "I" ∈ wsX8_undo := by unfold wsX8_undo; exact List.mem_cons_of_mem _ (List.mem_append_left _ (List.mem_of_getElem? (i := 0) rfl))
theorem mx_X8_undo_3 : Cond.fieldLink RX8 19 "MillTalkModel" "st" "[I" ∈ wsX8_undo := by unfold wsX8_undo; exact List.mem_cons_of_mem _ (List.mem_append_left _ (List.mem_of_getElem? (i := 2) rfl))
theorem mx_X8_undo_4 : Cond.fieldLink RX8 31 "MillTalkModel" "acts" "[I" ∈ wsX8_undo := by unfold wsX8_undo; exact List.mem_cons_of_mem _ (List.mem_append_left _ (List.mem_of_getElem? (i := 3) rfl))
theorem mx_X8_undo_2 : Cond.constant RX8 161 (-1000002) ∈ wsX8_undo := by unfold wsX8_undo; exact List.mem_cons_of_mem _ (List.mem_append_left _ (List.mem_of_getElem? (i := 1) rfl))
theorem mx_X8_hours_1 : Cond.fieldLink RX8 138 "MillTalkModel" "isThere" "Z" ∈ wsX8_hours := mb_X8_hours_wsX8_hours_r1 (List.mem_of_getElem? (i := 0) rfl)
theorem mx_X8_hours_3 : Cond.constantLong RX8 162 (24) ∈ wsX8_hours := mb_X8_hours_wsX8_hours_r1 (List.mem_of_getElem? (i := 2) rfl)
theorem mx_X8_hours_4 : Cond.constant RX8 67 (-1000001) ∈ wsX8_hours := mb_X8_hours_wsX8_hours_r1 (List.mem_of_getElem? (i := 3) rfl)
theorem mx_X8_hours_6 : Cond.constant RX8 84 (-1000003) ∈ wsX8_hours := mb_X8_hours_wsX8_hours_r1 (List.mem_of_getElem? (i := 5) rfl)
theorem mx_X8_hours_2 : Cond.constant RX8 161 (-1000002) ∈ wsX8_hours := mb_X8_hours_wsX8_hours_r1 (List.mem_of_getElem? (i := 1) rfl)
