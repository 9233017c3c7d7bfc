/-! ends of feed, level, ask, as: each conclusion by its own lemma -/
theorem fd_z {z : Nat} {a : Int32} (h : a < 0 ∨ ¬ a ≤ 255 ∨ z = 120) : z = sf_z z a := (if_pos h).symm
theorem fd_b {f : Nat → Int32} {z : Nat} {a : Int32} (h : a < 0 ∨ ¬ a ≤ 255 ∨ z = 120) : f = sf_b f z a := (if_pos h).symm
theorem fd_a {z : Nat} {a : Int32} (h : a < 0 ∨ ¬ a ≤ 255) : (-1000001 : Int32) = an_fd z a := (if_pos h).symm
theorem fd_f {z : Nat} {a : Int32} (h1 : ¬ a < 0) (h2 : a ≤ 255) (h : z = 120) : (-1000003 : Int32) = an_fd z a := by
  unfold an_fd
  rw [if_neg (fun q => q.elim h1 (fun t => t h2)), if_pos h]
theorem fd_n {z : Nat} {a : Int32} (h1 : ¬ a < 0) (h2 : a ≤ 255) (h : z < 120) : ¬ (a < 0 ∨ ¬ a ≤ 255 ∨ z = 120) := by
  rintro (q | q | q)
  · exact h1 q
  · exact q h2
  · omega
theorem fd_Z {z zn : Nat} {a : Int32} (h1 : ¬ a < 0) (h2 : a ≤ 255) (h : z < 120) (e : zn = apz z) : zn = sf_z z a := by
  unfold sf_z
  rw [if_neg (fd_n h1 h2 h), e]
  exact if_pos h
theorem fd_B {f g : Nat → Int32} {z : Nat} {a : Int32} (h1 : ¬ a < 0) (h2 : a ≤ 255) (h : z < 120) (e : g = apb f z a) : g = sf_b f z a := by
  unfold sf_b
  rw [if_neg (fd_n h1 h2 h), e]
  exact if_pos h
theorem fd_T {f g : Nat → Int32} {z zn : Nat} {a : Int32} (h1 : ¬ a < 0) (h2 : a ≤ 255) (h : z < 120) (e : zn = apz z) (e2 : g = apb f z a) (hT : okT f z) : okT g zn := by
  rw [fd_Z h1 h2 h e, fd_B h1 h2 h e2]
  exact okT_up hT
theorem fd_A {z : Nat} {a r : Int32} (h1 : ¬ a < 0) (h2 : a ≤ 255) (h : z < 120) (e : r = nI (apz z)) : r = an_fd z a := by
  unfold an_fd
  rw [if_neg (fun q => q.elim h1 (fun t => t h2)), if_neg (by omega), e]
  exact congrArg nI (if_pos h)
section LVLX
variable {f : Nat → Int32} {z : Nat} {g1 g2 g3 g4 g5 : Nat → Int32} {r : Int32}
theorem lx_ok (hz : z ≤ 120) (hT : okT f z) (h : r = (xRs f z g1 g2 g3 g4 g5).1.2.1) (c : r = 0) : (rR f z).2 = 0 := (lv_row hz hT g1 g2 g3 g4 g5).1.mp (h.symm.trans c)
theorem lx_no (hz : z ≤ 120) (hT : okT f z) (h : r = (xRs f z g1 g2 g3 g4 g5).1.2.1) (c : ¬ r = 0) : ¬ (rR f z).2 = 0 := fun q => c (h.trans ((lv_row hz hT g1 g2 g3 g4 g5).1.mpr q))
theorem lx_f {lf : Int32} (hz : z ≤ 120) (hT : okT f z) (h : r = (xRs f z g1 g2 g3 g4 g5).1.2.1) (c : r = 0) : lf = lvF f z lf := ((lv_ans hz hT g1 g2 g3 g4 g5).1 (h.symm.trans c)).2 lf
theorem lx_fn {lf : Int32} (hz : z ≤ 120) (hT : okT f z) (h : r = (xRs f z g1 g2 g3 g4 g5).1.2.1) (c : ¬ r = 0) : r = lvF f z lf := h.trans (((lv_ans hz hT g1 g2 g3 g4 g5).2 (fun q => c (h.trans q))).2 lf)
theorem lx_n {n : Nat} (hz : z ≤ 120) (hT : okT f z) (h : r = (xRs f z g1 g2 g3 g4 g5).1.2.1) (c : r = 0) : 0 = n_levN ((rR f z).2 = 0) n := by
  unfold n_levN
  rw [if_pos (lx_ok hz hT h c)]
theorem lx_nn {n : Nat} (hz : z ≤ 120) (hT : okT f z) (h : r = (xRs f z g1 g2 g3 g4 g5).1.2.1) (c : ¬ r = 0) : n = n_levN ((rR f z).2 = 0) n := by
  unfold n_levN
  rw [if_neg (lx_no hz hT h c)]
theorem lx_l {R L : Nat → Int32} (hz : z ≤ 120) (hT : okT f z) (h : r = (xRs f z g1 g2 g3 g4 g5).1.2.1) (c : ¬ r = 0) : L = n_lev ((rR f z).2 = 0) R L := by
  unfold n_lev
  rw [if_neg (lx_no hz hT h c)]
theorem lx_L {L : Nat → Int32} {a b d : Int32} {v0 v1 v2 : Int32} {w k : Nat} {t1 t2 t3 t4 t5 f1 f2 f3 f4 f5 : Nat → Int32} (hz : z ≤ 120) (hT : okT f z) (h : r = (xRs f z g1 g2 g3 g4 g5).1.2.1) (c : r = 0) (e2 : xRs f z g1 g2 g3 g4 g5 = ((a, b, d), k, t2, t3, t4, t5)) (e3 : (xRw f z g1).2 = (w, t1)) (e4 : v0 = xL0 f z (0, 0, 0)) (e5 : v1 = xL1 f z (0, 0, 0)) (e6 : v2 = xL2 f z (0, 0, 0)) (hw : w ≤ 6) (hk : k ≤ 6) (q1 : ∀ j : Nat, j < 6 → f1 j = t1 j) (q2 : ∀ j : Nat, j < 6 → f2 j = t2 j) (q3 : ∀ j : Nat, j < 6 → f3 j = t3 j) (q4 : ∀ j : Nat, j < 6 → f4 j = t4 j) (q5 : ∀ j : Nat, j < 6 → f5 j = t5 j) : nrm v0 v1 v2 1 0 0 w k f1 f2 f3 f4 f5 = n_lev ((rR f z).2 = 0) (rR f z).1.2 L := by
  have o := lx_ok hz hT h c
  have hr := (lv_row hz hT g1 g2 g3 g4 g5).2 o
  rw [e2, e3, ← e4, ← e5, ← e6] at hr
  unfold n_lev
  rw [if_pos o, hr]
  exact nr_eq hw hk q1 q2 q3 q4 q5
theorem lx_A {a b d : Int32} {k : Nat} {t2 t3 t4 t5 : Nat → Int32} (hz : z ≤ 120) (hT : okT f z) (h : r = (xRs f z g1 g2 g3 g4 g5).1.2.1) (c : r = 0) (e2 : xRs f z g1 g2 g3 g4 g5 = ((a, b, d), k, t2, t3, t4, t5)) : nI k = lvA f z := by
  have o := ((lv_ans hz hT g1 g2 g3 g4 g5).1 (h.symm.trans c)).1
  rw [e2] at o
  exact o
theorem lx_AN {a b d v : Int32} {k : Nat} {t2 t3 t4 t5 : Nat → Int32} (hz : z ≤ 120) (hT : okT f z) (h : r = (xRs f z g1 g2 g3 g4 g5).1.2.1) (c : ¬ r = 0) (e2 : xRs f z g1 g2 g3 g4 g5 = ((a, b, d), k, t2, t3, t4, t5)) (e : v = -1000100 - a) : v = lvA f z := by
  have o := ((lv_ans hz hT g1 g2 g3 g4 g5).2 (fun q => c (h.trans q))).1
  rw [e2] at o
  exact e.trans o
end LVLX
theorem ak_n1 {L fe : RF} {s w : Int32} {z : Nat} (g : ¬ (¬ s < 0 ∧ ¬ L 4 ≤ s) ∨ ¬ (w = 0 ∨ w = 1)) : z = (n_ask L s w (z, fe)).1 := by
  unfold n_ask
  rw [if_pos g]
theorem ak_n2 {L fe : RF} {s w : Int32} {z : Nat} (g : ¬ (¬ s < 0 ∧ ¬ L 4 ≤ s) ∨ ¬ (w = 0 ∨ w = 1)) : fe = (n_ask L s w (z, fe)).2 := by
  unfold n_ask
  rw [if_pos g]
theorem ak_a {L fe : RF} {s w : Int32} {z : Nat} (g : ¬ (¬ s < 0 ∧ ¬ L 4 ≤ s) ∨ ¬ (w = 0 ∨ w = 1)) : (-1000001 : Int32) = a_ask L s w (z, fe) := (if_pos g).symm
section ENDK
variable {v0 v1 v2 v3 v5 : Int32} {hh ww kk : Nat} {g1 g2 g3 g4 g5 : RF}
theorem nk_g {s : Int32} (h : s < 0 ∨ nI kk ≤ s) : ¬ (¬ s < 0 ∧ ¬ nrm v0 v1 v2 v3 hh v5 ww kk g1 g2 g3 g4 g5 4 ≤ s) := by
  rintro ⟨x, y⟩
  rw [nr4] at y
  exact h.elim x y
theorem nk_s {j : Nat} (hj : j < kk) (hk : kk ≤ 6) : ¬ nI j < 0 ∧ ¬ nrm v0 v1 v2 v3 hh v5 ww kk g1 g2 g3 g4 g5 4 ≤ nI j := by
  rw [nr4]
  exact sB_ok hj (by omega)
theorem ak_z {fe : RF} {z j : Nat} {x : Int32} (hk : kk ≤ 6) (hj : j < kk) (hx : x = 0 ∨ x = 1) : n_ask (nrm v0 v1 v2 v3 hh v5 ww kk g1 g2 g3 g4 g5) (nI j) x (z, fe) = (akM (nrm v0 v1 v2 v3 hh v5 ww kk g1 g2 g3 g4 g5) j x (0, fe)).2 ∧ a_ask (nrm v0 v1 v2 v3 hh v5 ww kk g1 g2 g3 g4 g5) (nI j) x (z, fe) = (akM (nrm v0 v1 v2 v3 hh v5 ww kk g1 g2 g3 g4 g5) j x (0, fe)).1 := by
  have hc : (nI j).toNatClampNeg = j := nI_clamp (by omega)
  have g : ¬ (¬ (¬ nI j < 0 ∧ ¬ nrm v0 v1 v2 v3 hh v5 ww kk g1 g2 g3 g4 g5 4 ≤ nI j) ∨ ¬ (x = 0 ∨ x = 1)) := fun q => q.elim (fun t => t (nk_s hj hk)) (fun t => t hx)
  unfold n_ask a_ask
  rw [if_neg g, if_neg g, hc]
  exact ⟨rfl, rfl⟩
theorem ak_N1 {fe fn : RF} {z zn j a : Nat} {x : Int32} (hk : kk ≤ 6) (hj : j < kk) (h1 : 1 ≤ a) (h5 : a ≤ 5) (he : g2 j = nI a) (hx : x = 0 ∨ x = 1) (e : (bgX (nI j) a (g3 j) (g4 j) 16 (bfX a x) (0, fe)).2 = (zn, fn)) : zn = (n_ask (nrm v0 v1 v2 v3 hh v5 ww kk g1 g2 g3 g4 g5) (nI j) x (z, fe)).1 := by
  rw [(ak_z hk hj hx).1, ← ask_X hk hj h1 h5 he hx, e]
theorem ak_N2 {fe fn : RF} {z zn j a : Nat} {x : Int32} (hk : kk ≤ 6) (hj : j < kk) (h1 : 1 ≤ a) (h5 : a ≤ 5) (he : g2 j = nI a) (hx : x = 0 ∨ x = 1) (e : (bgX (nI j) a (g3 j) (g4 j) 16 (bfX a x) (0, fe)).2 = (zn, fn)) : fn = (n_ask (nrm v0 v1 v2 v3 hh v5 ww kk g1 g2 g3 g4 g5) (nI j) x (z, fe)).2 := by
  rw [(ak_z hk hj hx).1, ← ask_X hk hj h1 h5 he hx, e]
theorem ak_A {fe : RF} {z j a : Nat} {x r : Int32} (hk : kk ≤ 6) (hj : j < kk) (h1 : 1 ≤ a) (h5 : a ≤ 5) (he : g2 j = nI a) (hx : x = 0 ∨ x = 1) (e : r = (bgX (nI j) a (g3 j) (g4 j) 16 (bfX a x) (0, fe)).1) : r = a_ask (nrm v0 v1 v2 v3 hh v5 ww kk g1 g2 g3 g4 g5) (nI j) x (z, fe) := by
  rw [(ak_z hk hj hx).2, ← ask_X hk hj h1 h5 he hx, e]
theorem as_g1 {s k : Int32} (h : s < 0 ∨ nI kk ≤ s) : ¬ sB (nrm v0 v1 v2 v3 hh v5 ww kk g1 g2 g3 g4 g5 4) s ∨ (k < 0 ∨ 5 < k) := Or.inl (nk_g h)
theorem as_ng {j : Nat} {k : Int32} (hj : j < kk) (hk : kk ≤ 6) (h1 : ¬ k < 0) (h2 : k ≤ 5) : ¬ (¬ sB (nrm v0 v1 v2 v3 hh v5 ww kk g1 g2 g3 g4 g5 4) (nI j) ∨ (k < 0 ∨ 5 < k)) := fun q => q.elim (fun t => t (nk_s hj hk)) (fun t => t.elim h1 (i_nlt.mpr h2))
theorem as_c {j a : Nat} (hj : j < kk) (hk : kk ≤ 6) (he : g2 j = nI a) : nrm v0 v1 v2 v3 hh v5 ww kk g1 g2 g3 g4 g5 (14 + (nI j).toNatClampNeg) = nI a := by
  rw [nI_clamp (by omega), nrg2 hj hk, he]
theorem as_A3 {j a : Nat} {k r : Int32} (hj : j < kk) (hk : kk ≤ 6) (h1 : ¬ k < 0) (h2 : k ≤ 5) (he : g2 j = nI a) (hn : ¬ isK (nI a) k) (e : r = -1000010 - 3) : r = a_as (nrm v0 v1 v2 v3 hh v5 ww kk g1 g2 g3 g4 g5) (nI j) k := by
  unfold a_as
  rw [if_neg (as_ng hj hk h1 h2), as_c hj hk he, if_neg hn]
  exact e.trans (by decide)
theorem as_A0 {j a : Nat} {k r : Int32} (hj : j < kk) (hk : kk ≤ 6) (h1 : ¬ k < 0) (h2 : k ≤ 5) (he : g2 j = nI a) (hn : isK (nI a) k) (e : r = nI j) : r = a_as (nrm v0 v1 v2 v3 hh v5 ww kk g1 g2 g3 g4 g5) (nI j) k := by
  unfold a_as
  rw [if_neg (as_ng hj hk h1 h2), as_c hj hk he, if_pos hn, e]
end ENDK
theorem as_a {L : RF} {s k : Int32} (g : ¬ sB (L 4) s ∨ (k < 0 ∨ 5 < k)) : (-1000001 : Int32) = a_as L s k := (if_pos g).symm
theorem as_g2 {L : RF} {s k : Int32} (h : k < 0) : ¬ sB (L 4) s ∨ (k < 0 ∨ 5 < k) := Or.inr (Or.inl h)
theorem as_g3 {L : RF} {s k : Int32} (h : ¬ k ≤ 5) : ¬ sB (L 4) s ∨ (k < 0 ∨ 5 < k) := Or.inr (Or.inr (i_nle.mp h))
theorem an_row_ok {j n : Nat} {b : Int32} (hj : j < 8) (hb : ¬ (b < 0 ∨ 2 < b)) (hn : n ≤ 40) : an_row (nI j) b (nI n) = nI n := by
  have h := okr_ok hj hb hn
  unfold an_row
  rw [if_neg (by rintro (q | q | q); exact nI_nb hj q; exact hb q; exact q h.2.2.1), if_pos h.2.2.2]
theorem an_row_neg {j : Nat} {b n : Int32} (hj : j < 8) (hb : ¬ (b < 0 ∨ 2 < b)) (hn : n ≤ 40) (h0 : ¬ 0 ≤ n) : an_row (nI j) b n = -1000010 - 4 := by
  unfold an_row
  rw [if_neg (by rintro (q | q | q); exact nI_nb hj q; exact hb q; exact q hn), if_neg h0]
  decide
theorem dX4_comesTo_0 : decode cX4_comesTo 0 = .ok (.aload_n 0, 1) := dq_42 (by decide +kernel)
theorem dX4_comesTo_1 : decode cX4_comesTo 1 = .ok (.getfield 10, 3) := dq_180 (b1 := 0) (b2 := 10) (by decide +kernel) (by decide)
theorem dX4_comesTo_10 : decode cX4_comesTo 10 = .ok (.putfield 23, 3) := dq_181 (b1 := 0) (b2 := 23) (by decide +kernel) (by decide)
theorem dX4_comesTo_13 : decode cX4_comesTo 13 = .ok (.aload_n 0, 1) := dq_42 (by decide +kernel)
theorem dX4_comesTo_14 : decode cX4_comesTo 14 = .ok (.iconst 1, 1) := dq_4 (by decide +kernel)
theorem dX4_comesTo_15 : decode cX4_comesTo 15 = .ok (.iload_n 2, 1) := dq_28 (by decide +kernel)
theorem dX4_comesTo_16 : decode cX4_comesTo 16 = .ok (.iconst 4, 1) := dq_7 (by decide +kernel)
theorem dX4_comesTo_17 : decode cX4_comesTo 17 = .ok (.invokestatic 27, 3) := dq_184 (b1 := 0) (b2 := 27) (by decide +kernel) (by decide)
theorem dX4_comesTo_20 : decode cX4_comesTo 20 = .ok (.invokevirtual 33, 3) := dq_182 (b1 := 0) (b2 := 33) (by decide +kernel) (by decide)
theorem dX4_comesTo_23 : decode cX4_comesTo 23 = .ok (.ireturn, 1) := dq_172 (by decide +kernel)
theorem dX4_comesTo_4 : decode cX4_comesTo 4 = .ok (.aload_n 1, 1) := dq_43 (by decide +kernel)
theorem dX4_comesTo_5 : decode cX4_comesTo 5 = .ok (.invokevirtual 19, 3) := dq_182 (b1 := 0) (b2 := 19) (by decide +kernel) (by decide)
theorem dX4_comesTo_8 : decode cX4_comesTo 8 = .ok (.aload_n 0, 1) := dq_42 (by decide +kernel)
theorem dX4_comesTo_9 : decode cX4_comesTo 9 = .ok (.iload_n 3, 1) := dq_29 (by decide +kernel)
theorem dX7_as_0 : decode cX7_as 0 = .ok (.aload_n 0, 1) := dq_42 (by decide +kernel)
theorem dX7_as_1 : decode cX7_as 1 = .ok (.getfield 26, 3) := dq_180 (b1 := 0) (b2 := 26) (by decide +kernel) (by decide)
theorem dX7_as_11 : decode cX7_as 11 = .ok (.iload_n 2, 1) := dq_28 (by decide +kernel)
theorem dX7_as_12 : decode cX7_as 12 = .ok (.ifCond .lt 8, 3) := dq_155 (b1 := 0) (b2 := 8) (by decide +kernel) (by decide)
theorem dX7_as_15 : decode cX7_as 15 = .ok (.iload_n 2, 1) := dq_28 (by decide +kernel)
theorem dX7_as_16 : decode cX7_as 16 = .ok (.iconst 5, 1) := dq_8 (by decide +kernel)
theorem dX7_as_17 : decode cX7_as 17 = .ok (.if_icmp .le 6, 3) := dq_164 (b1 := 0) (b2 := 6) (by decide +kernel) (by decide)
theorem dX7_as_20 : decode cX7_as 20 = .ok (.ldc 72, 2) := dq_18 (b1 := 72) (by decide +kernel) (by decide)
theorem dX7_as_22 : decode cX7_as 22 = .ok (.ireturn, 1) := dq_172 (by decide +kernel)
theorem dX7_as_23 : decode cX7_as 23 = .ok (.aload_n 0, 1) := dq_42 (by decide +kernel)
theorem dX7_as_24 : decode cX7_as 24 = .ok (.getfield 26, 3) := dq_180 (b1 := 0) (b2 := 26) (by decide +kernel) (by decide)
theorem dX7_as_27 : decode cX7_as 27 = .ok (.getfield 301, 3) := dq_180 (b1 := 1) (b2 := 45) (by decide +kernel) (by decide)
theorem dX7_as_30 : decode cX7_as 30 = .ok (.iload_n 1, 1) := dq_27 (by decide +kernel)
theorem dX7_as_31 : decode cX7_as 31 = .ok (.iaload, 1) := dq_46 (by decide +kernel)
theorem dX7_as_32 : decode cX7_as 32 = .ok (.iload_n 2, 1) := dq_28 (by decide +kernel)
theorem dX7_as_33 : decode cX7_as 33 = .ok (.invokestatic 304, 3) := dq_184 (b1 := 1) (b2 := 48) (by decide +kernel) (by decide)
theorem dX7_as_36 : decode cX7_as 36 = .ok (.ifCond .eq 11, 3) := dq_153 (b1 := 0) (b2 := 11) (by decide +kernel) (by decide)
theorem dX7_as_39 : decode cX7_as 39 = .ok (.aload_n 0, 1) := dq_42 (by decide +kernel)
theorem dX7_as_4 : decode cX7_as 4 = .ok (.iload_n 1, 1) := dq_27 (by decide +kernel)
theorem dX7_as_40 : decode cX7_as 40 = .ok (.iload_n 1, 1) := dq_27 (by decide +kernel)
theorem dX7_as_41 : decode cX7_as 41 = .ok (.invokevirtual 81, 3) := dq_182 (b1 := 0) (b2 := 81) (by decide +kernel) (by decide)
theorem dX7_as_44 : decode cX7_as 44 = .ok (.goto 8, 3) := dq_167 (b1 := 0) (b2 := 8) (by decide +kernel) (by decide)
theorem dX7_as_47 : decode cX7_as 47 = .ok (.aload_n 0, 1) := dq_42 (by decide +kernel)
theorem dX7_as_48 : decode cX7_as 48 = .ok (.iconst 3, 1) := dq_6 (by decide +kernel)
theorem dX7_as_49 : decode cX7_as 49 = .ok (.invokevirtual 73, 3) := dq_182 (b1 := 0) (b2 := 73) (by decide +kernel) (by decide)
theorem dX7_as_5 : decode cX7_as 5 = .ok (.invokevirtual 173, 3) := dq_182 (b1 := 0) (b2 := 173) (by decide +kernel) (by decide)
theorem dX7_as_52 : decode cX7_as 52 = .ok (.ireturn, 1) := dq_172 (by decide +kernel)
theorem dX7_as_8 : decode cX7_as 8 = .ok (.ifCond .eq 12, 3) := dq_153 (b1 := 0) (b2 := 12) (by decide +kernel) (by decide)
theorem dX7_ask_0 : decode cX7_ask 0 = .ok (.aload_n 0, 1) := dq_42 (by decide +kernel)
theorem dX7_ask_1 : decode cX7_ask 1 = .ok (.getfield 26, 3) := dq_180 (b1 := 0) (b2 := 26) (by decide +kernel) (by decide)
theorem dX7_ask_11 : decode cX7_ask 11 = .ok (.iload_n 2, 1) := dq_28 (by decide +kernel)
theorem dX7_ask_12 : decode cX7_ask 12 = .ok (.invokestatic 307, 3) := dq_184 (b1 := 1) (b2 := 51) (by decide +kernel) (by decide)
theorem dX7_ask_15 : decode cX7_ask 15 = .ok (.ifCond .ne 6, 3) := dq_154 (b1 := 0) (b2 := 6) (by decide +kernel) (by decide)
theorem dX7_ask_18 : decode cX7_ask 18 = .ok (.ldc 72, 2) := dq_18 (b1 := 72) (by decide +kernel) (by decide)
theorem dX7_ask_20 : decode cX7_ask 20 = .ok (.ireturn, 1) := dq_172 (by decide +kernel)
theorem dX7_ask_21 : decode cX7_ask 21 = .ok (.aload_n 0, 1) := dq_42 (by decide +kernel)
theorem dX7_ask_22 : decode cX7_ask 22 = .ok (.getfield 61, 3) := dq_180 (b1 := 0) (b2 := 61) (by decide +kernel) (by decide)
theorem dX7_ask_25 : decode cX7_ask 25 = .ok (.aload_n 0, 1) := dq_42 (by decide +kernel)
theorem dX7_ask_26 : decode cX7_ask 26 = .ok (.getfield 26, 3) := dq_180 (b1 := 0) (b2 := 26) (by decide +kernel) (by decide)
theorem dX7_ask_29 : decode cX7_ask 29 = .ok (.iload_n 1, 1) := dq_27 (by decide +kernel)
theorem dX7_ask_30 : decode cX7_ask 30 = .ok (.iload_n 2, 1) := dq_28 (by decide +kernel)
theorem dX7_ask_31 : decode cX7_ask 31 = .ok (.invokevirtual 310, 3) := dq_182 (b1 := 1) (b2 := 54) (by decide +kernel) (by decide)
theorem dX7_ask_34 : decode cX7_ask 34 = .ok (.ireturn, 1) := dq_172 (by decide +kernel)
theorem dX7_ask_4 : decode cX7_ask 4 = .ok (.iload_n 1, 1) := dq_27 (by decide +kernel)
theorem dX7_ask_5 : decode cX7_ask 5 = .ok (.invokevirtual 173, 3) := dq_182 (b1 := 0) (b2 := 173) (by decide +kernel) (by decide)
theorem dX7_ask_8 : decode cX7_ask 8 = .ok (.ifCond .eq 10, 3) := dq_153 (b1 := 0) (b2 := 10) (by decide +kernel) (by decide)
theorem dX7_byTurns_0 : decode cX7_byTurns 0 = .ok (.aload_n 0, 1) := dq_42 (by decide +kernel)
theorem dX7_byTurns_1 : decode cX7_byTurns 1 = .ok (.getfield 26, 3) := dq_180 (b1 := 0) (b2 := 26) (by decide +kernel) (by decide)
theorem dX7_byTurns_10 : decode cX7_byTurns 10 = .ok (.ldc 141, 2) := dq_18 (b1 := 141) (by decide +kernel) (by decide)
theorem dX7_byTurns_12 : decode cX7_byTurns 12 = .ok (.ireturn, 1) := dq_172 (by decide +kernel)
theorem dX7_byTurns_13 : decode cX7_byTurns 13 = .ok (.iload_n 1, 1) := dq_27 (by decide +kernel)
theorem dX7_byTurns_14 : decode cX7_byTurns 14 = .ok (.ifCond .lt 19, 3) := dq_155 (b1 := 0) (b2 := 19) (by decide +kernel) (by decide)
theorem dX7_byTurns_17 : decode cX7_byTurns 17 = .ok (.iload_n 1, 1) := dq_27 (by decide +kernel)
theorem dX7_byTurns_18 : decode cX7_byTurns 18 = .ok (.iconst 4, 1) := dq_7 (by decide +kernel)
theorem dX7_byTurns_19 : decode cX7_byTurns 19 = .ok (.if_icmp .gt 14, 3) := dq_163 (b1 := 0) (b2 := 14) (by decide +kernel) (by decide)
theorem dX7_byTurns_22 : decode cX7_byTurns 22 = .ok (.iload_n 2, 1) := dq_28 (by decide +kernel)
theorem dX7_byTurns_23 : decode cX7_byTurns 23 = .ok (.iconst 1, 1) := dq_4 (by decide +kernel)
theorem dX7_byTurns_24 : decode cX7_byTurns 24 = .ok (.if_icmp .lt 9, 3) := dq_161 (b1 := 0) (b2 := 9) (by decide +kernel) (by decide)
theorem dX7_byTurns_27 : decode cX7_byTurns 27 = .ok (.iload_n 2, 1) := dq_28 (by decide +kernel)
theorem dX7_byTurns_28 : decode cX7_byTurns 28 = .ok (.bipush 20, 2) := dq_16 (b1 := 20) (by decide +kernel) (by decide)
theorem dX7_byTurns_30 : decode cX7_byTurns 30 = .ok (.if_icmp .le 6, 3) := dq_164 (b1 := 0) (b2 := 6) (by decide +kernel) (by decide)
theorem dX7_byTurns_33 : decode cX7_byTurns 33 = .ok (.ldc 72, 2) := dq_18 (b1 := 72) (by decide +kernel) (by decide)
theorem dX7_byTurns_35 : decode cX7_byTurns 35 = .ok (.ireturn, 1) := dq_172 (by decide +kernel)
theorem dX7_byTurns_36 : decode cX7_byTurns 36 = .ok (.aload_n 0, 1) := dq_42 (by decide +kernel)
theorem dX7_byTurns_37 : decode cX7_byTurns 37 = .ok (.getfield 47, 3) := dq_180 (b1 := 0) (b2 := 47) (by decide +kernel) (by decide)
theorem dX7_byTurns_4 : decode cX7_byTurns 4 = .ok (.invokevirtual 145, 3) := dq_182 (b1 := 0) (b2 := 145) (by decide +kernel) (by decide)
theorem dX7_byTurns_40 : decode cX7_byTurns 40 = .ok (.aload_n 0, 1) := dq_42 (by decide +kernel)
theorem dX7_byTurns_41 : decode cX7_byTurns 41 = .ok (.getfield 26, 3) := dq_180 (b1 := 0) (b2 := 26) (by decide +kernel) (by decide)
theorem dX7_byTurns_44 : decode cX7_byTurns 44 = .ok (.iload_n 1, 1) := dq_27 (by decide +kernel)
theorem dX7_byTurns_45 : decode cX7_byTurns 45 = .ok (.iload_n 2, 1) := dq_28 (by decide +kernel)
theorem dX7_byTurns_46 : decode cX7_byTurns 46 = .ok (.invokevirtual 243, 3) := dq_182 (b1 := 0) (b2 := 243) (by decide +kernel) (by decide)
theorem dX7_byTurns_49 : decode cX7_byTurns 49 = .ok (.ireturn, 1) := dq_172 (by decide +kernel)
theorem dX7_byTurns_7 : decode cX7_byTurns 7 = .ok (.ifCond .ne 6, 3) := dq_154 (b1 := 0) (b2 := 6) (by decide +kernel) (by decide)
theorem dX7_caps_0 : decode cX7_caps 0 = .ok (.aload_n 0, 1) := dq_42 (by decide +kernel)
theorem dX7_caps_1 : decode cX7_caps 1 = .ok (.getfield 26, 3) := dq_180 (b1 := 0) (b2 := 26) (by decide +kernel) (by decide)
theorem dX7_caps_10 : decode cX7_caps 10 = .ok (.ldc 141, 2) := dq_18 (b1 := 141) (by decide +kernel) (by decide)
theorem dX7_caps_12 : decode cX7_caps 12 = .ok (.ireturn, 1) := dq_172 (by decide +kernel)
theorem dX7_caps_13 : decode cX7_caps 13 = .ok (.iload_n 1, 1) := dq_27 (by decide +kernel)
theorem dX7_caps_14 : decode cX7_caps 14 = .ok (.invokestatic 221, 3) := dq_184 (b1 := 0) (b2 := 221) (by decide +kernel) (by decide)
theorem dX7_caps_17 : decode cX7_caps 17 = .ok (.ifCond .eq 9, 3) := dq_153 (b1 := 0) (b2 := 9) (by decide +kernel) (by decide)
theorem dX7_caps_20 : decode cX7_caps 20 = .ok (.iload_n 2, 1) := dq_28 (by decide +kernel)
theorem dX7_caps_21 : decode cX7_caps 21 = .ok (.bipush (-2), 2) := dq_16 (b1 := 254) (by decide +kernel) (by decide)
theorem dX7_caps_23 : decode cX7_caps 23 = .ok (.if_icmp .ge 6, 3) := dq_162 (b1 := 0) (b2 := 6) (by decide +kernel) (by decide)
theorem dX7_caps_26 : decode cX7_caps 26 = .ok (.ldc 72, 2) := dq_18 (b1 := 72) (by decide +kernel) (by decide)
theorem dX7_caps_28 : decode cX7_caps 28 = .ok (.ireturn, 1) := dq_172 (by decide +kernel)
theorem dX7_caps_29 : decode cX7_caps 29 = .ok (.iload_n 2, 1) := dq_28 (by decide +kernel)
theorem dX7_caps_30 : decode cX7_caps 30 = .ok (.iload_n 1, 1) := dq_27 (by decide +kernel)
theorem dX7_caps_31 : decode cX7_caps 31 = .ok (.if_icmp .lt 6, 3) := dq_161 (b1 := 0) (b2 := 6) (by decide +kernel) (by decide)
theorem dX7_caps_34 : decode cX7_caps 34 = .ok (.ldc 220, 2) := dq_18 (b1 := 220) (by decide +kernel) (by decide)
theorem dX7_caps_36 : decode cX7_caps 36 = .ok (.ireturn, 1) := dq_172 (by decide +kernel)
theorem dX7_caps_37 : decode cX7_caps 37 = .ok (.aload_n 0, 1) := dq_42 (by decide +kernel)
theorem dX7_caps_38 : decode cX7_caps 38 = .ok (.getfield 54, 3) := dq_180 (b1 := 0) (b2 := 54) (by decide +kernel) (by decide)
theorem dX7_caps_4 : decode cX7_caps 4 = .ok (.invokevirtual 145, 3) := dq_182 (b1 := 0) (b2 := 145) (by decide +kernel) (by decide)
theorem dX7_caps_41 : decode cX7_caps 41 = .ok (.aload_n 0, 1) := dq_42 (by decide +kernel)
theorem dX7_caps_42 : decode cX7_caps 42 = .ok (.getfield 26, 3) := dq_180 (b1 := 0) (b2 := 26) (by decide +kernel) (by decide)
theorem dX7_caps_45 : decode cX7_caps 45 = .ok (.iload_n 1, 1) := dq_27 (by decide +kernel)
theorem dX7_caps_46 : decode cX7_caps 46 = .ok (.iconst (-1), 1) := dq_2 (by decide +kernel)
theorem dX7_caps_47 : decode cX7_caps 47 = .ok (.invokevirtual 224, 3) := dq_182 (b1 := 0) (b2 := 224) (by decide +kernel) (by decide)
theorem dX7_caps_50 : decode cX7_caps 50 = .ok (.iload_n 2, 1) := dq_28 (by decide +kernel)
theorem dX7_caps_51 : decode cX7_caps 51 = .ok (.iconst (-1), 1) := dq_2 (by decide +kernel)
theorem dX7_caps_52 : decode cX7_caps 52 = .ok (.if_icmp .ne 11, 3) := dq_160 (b1 := 0) (b2 := 11) (by decide +kernel) (by decide)
theorem dX7_caps_55 : decode cX7_caps 55 = .ok (.aload_n 0, 1) := dq_42 (by decide +kernel)
theorem dX7_caps_56 : decode cX7_caps 56 = .ok (.getfield 54, 3) := dq_180 (b1 := 0) (b2 := 54) (by decide +kernel) (by decide)
theorem dX7_caps_59 : decode cX7_caps 59 = .ok (.getfield 228, 3) := dq_180 (b1 := 0) (b2 := 228) (by decide +kernel) (by decide)
theorem dX7_caps_62 : decode cX7_caps 62 = .ok (.ireturn, 1) := dq_172 (by decide +kernel)
theorem dX7_caps_63 : decode cX7_caps 63 = .ok (.iload_n 2, 1) := dq_28 (by decide +kernel)
theorem dX7_caps_64 : decode cX7_caps 64 = .ok (.bipush (-2), 2) := dq_16 (b1 := 254) (by decide +kernel) (by decide)
theorem dX7_caps_66 : decode cX7_caps 66 = .ok (.if_icmp .ne 13, 3) := dq_160 (b1 := 0) (b2 := 13) (by decide +kernel) (by decide)
theorem dX7_caps_69 : decode cX7_caps 69 = .ok (.aload_n 0, 1) := dq_42 (by decide +kernel)
theorem dX7_caps_7 : decode cX7_caps 7 = .ok (.ifCond .ne 6, 3) := dq_154 (b1 := 0) (b2 := 6) (by decide +kernel) (by decide)
theorem dX7_caps_70 : decode cX7_caps 70 = .ok (.getfield 54, 3) := dq_180 (b1 := 0) (b2 := 54) (by decide +kernel) (by decide)
theorem dX7_caps_73 : decode cX7_caps 73 = .ok (.getfield 231, 3) := dq_180 (b1 := 0) (b2 := 231) (by decide +kernel) (by decide)
theorem dX7_caps_76 : decode cX7_caps 76 = .ok (.goto 11, 3) := dq_167 (b1 := 0) (b2 := 11) (by decide +kernel) (by decide)
theorem dX7_caps_79 : decode cX7_caps 79 = .ok (.aload_n 0, 1) := dq_42 (by decide +kernel)
theorem dX7_caps_80 : decode cX7_caps 80 = .ok (.getfield 54, 3) := dq_180 (b1 := 0) (b2 := 54) (by decide +kernel) (by decide)
theorem dX7_caps_83 : decode cX7_caps 83 = .ok (.iload_n 2, 1) := dq_28 (by decide +kernel)
theorem dX7_caps_84 : decode cX7_caps 84 = .ok (.invokevirtual 234, 3) := dq_182 (b1 := 0) (b2 := 234) (by decide +kernel) (by decide)
theorem dX7_caps_87 : decode cX7_caps 87 = .ok (.ireturn, 1) := dq_172 (by decide +kernel)
theorem dX7_copy_0 : decode cX7_copy 0 = .ok (.iload_n 1, 1) := dq_27 (by decide +kernel)
theorem dX7_copy_1 : decode cX7_copy 1 = .ok (.invokestatic 65, 3) := dq_184 (b1 := 0) (b2 := 65) (by decide +kernel) (by decide)
theorem dX7_copy_11 : decode cX7_copy 11 = .ok (.ifCond .ne 6, 3) := dq_154 (b1 := 0) (b2 := 6) (by decide +kernel) (by decide)
theorem dX7_copy_14 : decode cX7_copy 14 = .ok (.ldc 72, 2) := dq_18 (b1 := 72) (by decide +kernel) (by decide)
theorem dX7_copy_16 : decode cX7_copy 16 = .ok (.ireturn, 1) := dq_172 (by decide +kernel)
theorem dX7_copy_17 : decode cX7_copy 17 = .ok (.aload_n 0, 1) := dq_42 (by decide +kernel)
theorem dX7_copy_18 : decode cX7_copy 18 = .ok (.getfield 10, 3) := dq_180 (b1 := 0) (b2 := 10) (by decide +kernel) (by decide)
theorem dX7_copy_21 : decode cX7_copy 21 = .ok (.iload_n 1, 1) := dq_27 (by decide +kernel)
theorem dX7_copy_22 : decode cX7_copy 22 = .ok (.iload_n 2, 1) := dq_28 (by decide +kernel)
theorem dX7_copy_23 : decode cX7_copy 23 = .ok (.iload_n 3, 1) := dq_29 (by decide +kernel)
theorem dX7_copy_24 : decode cX7_copy 24 = .ok (.iload 4, 2) := dq_21 (b1 := 4) (by decide +kernel) (by decide)
theorem dX7_copy_26 : decode cX7_copy 26 = .ok (.iload 5, 2) := dq_21 (b1 := 5) (by decide +kernel) (by decide)
theorem dX7_copy_28 : decode cX7_copy 28 = .ok (.invokevirtual 91, 3) := dq_182 (b1 := 0) (b2 := 91) (by decide +kernel) (by decide)
theorem dX7_copy_31 : decode cX7_copy 31 = .ok (.istore 6, 2) := dq_54 (b1 := 6) (by decide +kernel) (by decide)
theorem dX7_copy_33 : decode cX7_copy 33 = .ok (.iload 6, 2) := dq_21 (b1 := 6) (by decide +kernel) (by decide)
theorem dX7_copy_35 : decode cX7_copy 35 = .ok (.ifCond .eq 10, 3) := dq_153 (b1 := 0) (b2 := 10) (by decide +kernel) (by decide)
theorem dX7_copy_38 : decode cX7_copy 38 = .ok (.aload_n 0, 1) := dq_42 (by decide +kernel)
theorem dX7_copy_39 : decode cX7_copy 39 = .ok (.iload 6, 2) := dq_21 (b1 := 6) (by decide +kernel) (by decide)
theorem dX7_copy_4 : decode cX7_copy 4 = .ok (.ifCond .eq 10, 3) := dq_153 (b1 := 0) (b2 := 10) (by decide +kernel) (by decide)
theorem dX7_copy_41 : decode cX7_copy 41 = .ok (.invokevirtual 73, 3) := dq_182 (b1 := 0) (b2 := 73) (by decide +kernel) (by decide)
theorem dX7_copy_44 : decode cX7_copy 44 = .ok (.ireturn, 1) := dq_172 (by decide +kernel)
theorem dX7_copy_45 : decode cX7_copy 45 = .ok (.aload_n 0, 1) := dq_42 (by decide +kernel)
theorem dX7_copy_46 : decode cX7_copy 46 = .ok (.getfield 10, 3) := dq_180 (b1 := 0) (b2 := 10) (by decide +kernel) (by decide)
theorem dX7_copy_49 : decode cX7_copy 49 = .ok (.iload_n 1, 1) := dq_27 (by decide +kernel)
theorem dX7_copy_50 : decode cX7_copy 50 = .ok (.iload_n 2, 1) := dq_28 (by decide +kernel)
theorem dX7_copy_51 : decode cX7_copy 51 = .ok (.iload_n 3, 1) := dq_29 (by decide +kernel)
theorem dX7_copy_52 : decode cX7_copy 52 = .ok (.iload 4, 2) := dq_21 (b1 := 4) (by decide +kernel) (by decide)
theorem dX7_copy_54 : decode cX7_copy 54 = .ok (.iload 5, 2) := dq_21 (b1 := 5) (by decide +kernel) (by decide)
theorem dX7_copy_56 : decode cX7_copy 56 = .ok (.invokevirtual 95, 3) := dq_182 (b1 := 0) (b2 := 95) (by decide +kernel) (by decide)
theorem dX7_copy_59 : decode cX7_copy 59 = .ok (.aload_n 0, 1) := dq_42 (by decide +kernel)
theorem dX7_copy_60 : decode cX7_copy 60 = .ok (.iload 5, 2) := dq_21 (b1 := 5) (by decide +kernel) (by decide)
theorem dX7_copy_62 : decode cX7_copy 62 = .ok (.invokevirtual 81, 3) := dq_182 (b1 := 0) (b2 := 81) (by decide +kernel) (by decide)
theorem dX7_copy_65 : decode cX7_copy 65 = .ok (.ireturn, 1) := dq_172 (by decide +kernel)
theorem dX7_copy_7 : decode cX7_copy 7 = .ok (.iload_n 3, 1) := dq_29 (by decide +kernel)
theorem dX7_copy_8 : decode cX7_copy 8 = .ok (.invokestatic 65, 3) := dq_184 (b1 := 0) (b2 := 65) (by decide +kernel) (by decide)
theorem dX7_drop_0 : decode cX7_drop 0 = .ok (.iload_n 1, 1) := dq_27 (by decide +kernel)
theorem dX7_drop_1 : decode cX7_drop 1 = .ok (.invokestatic 65, 3) := dq_184 (b1 := 0) (b2 := 65) (by decide +kernel) (by decide)
theorem dX7_drop_10 : decode cX7_drop 10 = .ok (.aload_n 0, 1) := dq_42 (by decide +kernel)
theorem dX7_drop_11 : decode cX7_drop 11 = .ok (.getfield 10, 3) := dq_180 (b1 := 0) (b2 := 10) (by decide +kernel) (by decide)
theorem dX7_drop_14 : decode cX7_drop 14 = .ok (.iload_n 1, 1) := dq_27 (by decide +kernel)
theorem dX7_drop_15 : decode cX7_drop 15 = .ok (.invokevirtual 99, 3) := dq_182 (b1 := 0) (b2 := 99) (by decide +kernel) (by decide)
theorem dX7_drop_18 : decode cX7_drop 18 = .ok (.ifCond .eq 9, 3) := dq_153 (b1 := 0) (b2 := 9) (by decide +kernel) (by decide)
theorem dX7_drop_21 : decode cX7_drop 21 = .ok (.aload_n 0, 1) := dq_42 (by decide +kernel)
theorem dX7_drop_22 : decode cX7_drop 22 = .ok (.iconst 1, 1) := dq_4 (by decide +kernel)
theorem dX7_drop_23 : decode cX7_drop 23 = .ok (.invokevirtual 73, 3) := dq_182 (b1 := 0) (b2 := 73) (by decide +kernel) (by decide)
theorem dX7_drop_26 : decode cX7_drop 26 = .ok (.ireturn, 1) := dq_172 (by decide +kernel)
theorem dX7_drop_27 : decode cX7_drop 27 = .ok (.aload_n 0, 1) := dq_42 (by decide +kernel)
theorem dX7_drop_28 : decode cX7_drop 28 = .ok (.aload_n 0, 1) := dq_42 (by decide +kernel)
theorem dX7_drop_29 : decode cX7_drop 29 = .ok (.getfield 10, 3) := dq_180 (b1 := 0) (b2 := 10) (by decide +kernel) (by decide)
theorem dX7_drop_32 : decode cX7_drop 32 = .ok (.iload_n 1, 1) := dq_27 (by decide +kernel)
theorem dX7_drop_33 : decode cX7_drop 33 = .ok (.invokevirtual 102, 3) := dq_182 (b1 := 0) (b2 := 102) (by decide +kernel) (by decide)
theorem dX7_drop_36 : decode cX7_drop 36 = .ok (.invokevirtual 81, 3) := dq_182 (b1 := 0) (b2 := 81) (by decide +kernel) (by decide)
theorem dX7_drop_39 : decode cX7_drop 39 = .ok (.ireturn, 1) := dq_172 (by decide +kernel)
theorem dX7_drop_4 : decode cX7_drop 4 = .ok (.ifCond .ne 6, 3) := dq_154 (b1 := 0) (b2 := 6) (by decide +kernel) (by decide)
theorem dX7_drop_7 : decode cX7_drop 7 = .ok (.ldc 72, 2) := dq_18 (b1 := 72) (by decide +kernel) (by decide)
theorem dX7_drop_9 : decode cX7_drop 9 = .ok (.ireturn, 1) := dq_172 (by decide +kernel)
theorem dX7_feed_0 : decode cX7_feed 0 = .ok (.iload_n 1, 1) := dq_27 (by decide +kernel)
theorem dX7_feed_1 : decode cX7_feed 1 = .ok (.ifCond .lt 10, 3) := dq_155 (b1 := 0) (b2 := 10) (by decide +kernel) (by decide)
theorem dX7_feed_11 : decode cX7_feed 11 = .ok (.ldc 72, 2) := dq_18 (b1 := 72) (by decide +kernel) (by decide)
theorem dX7_feed_13 : decode cX7_feed 13 = .ok (.ireturn, 1) := dq_172 (by decide +kernel)
theorem dX7_feed_14 : decode cX7_feed 14 = .ok (.aload_n 0, 1) := dq_42 (by decide +kernel)
theorem dX7_feed_15 : decode cX7_feed 15 = .ok (.getfield 19, 3) := dq_180 (b1 := 0) (b2 := 19) (by decide +kernel) (by decide)
theorem dX7_feed_18 : decode cX7_feed 18 = .ok (.invokevirtual 105, 3) := dq_182 (b1 := 0) (b2 := 105) (by decide +kernel) (by decide)
theorem dX7_feed_21 : decode cX7_feed 21 = .ok (.ifCond .eq 6, 3) := dq_153 (b1 := 0) (b2 := 6) (by decide +kernel) (by decide)
theorem dX7_feed_24 : decode cX7_feed 24 = .ok (.ldc 109, 2) := dq_18 (b1 := 109) (by decide +kernel) (by decide)
theorem dX7_feed_26 : decode cX7_feed 26 = .ok (.ireturn, 1) := dq_172 (by decide +kernel)
theorem dX7_feed_27 : decode cX7_feed 27 = .ok (.aload_n 0, 1) := dq_42 (by decide +kernel)
theorem dX7_feed_28 : decode cX7_feed 28 = .ok (.getfield 19, 3) := dq_180 (b1 := 0) (b2 := 19) (by decide +kernel) (by decide)
theorem dX7_feed_31 : decode cX7_feed 31 = .ok (.iload_n 1, 1) := dq_27 (by decide +kernel)
theorem dX7_feed_32 : decode cX7_feed 32 = .ok (.invokevirtual 110, 3) := dq_182 (b1 := 0) (b2 := 110) (by decide +kernel) (by decide)
theorem dX7_feed_35 : decode cX7_feed 35 = .ok (.ireturn, 1) := dq_172 (by decide +kernel)
theorem dX7_feed_4 : decode cX7_feed 4 = .ok (.iload_n 1, 1) := dq_27 (by decide +kernel)
theorem dX7_feed_5 : decode cX7_feed 5 = .ok (.sipush 255, 3) := dq_17 (b1 := 0) (b2 := 255) (by decide +kernel) (by decide)
theorem dX7_feed_8 : decode cX7_feed 8 = .ok (.if_icmp .le 6, 3) := dq_164 (b1 := 0) (b2 := 6) (by decide +kernel) (by decide)
theorem dX7_had_0 : decode cX7_had 0 = .ok (.aload_n 0, 1) := dq_42 (by decide +kernel)
theorem dX7_had_1 : decode cX7_had 1 = .ok (.getfield 26, 3) := dq_180 (b1 := 0) (b2 := 26) (by decide +kernel) (by decide)
theorem dX7_had_10 : decode cX7_had 10 = .ok (.ldc 141, 2) := dq_18 (b1 := 141) (by decide +kernel) (by decide)
theorem dX7_had_12 : decode cX7_had 12 = .ok (.ireturn, 1) := dq_172 (by decide +kernel)
theorem dX7_had_13 : decode cX7_had 13 = .ok (.iload_n 1, 1) := dq_27 (by decide +kernel)
theorem dX7_had_14 : decode cX7_had 14 = .ok (.ifCond .lt 23, 3) := dq_155 (b1 := 0) (b2 := 23) (by decide +kernel) (by decide)
theorem dX7_had_17 : decode cX7_had 17 = .ok (.iload_n 1, 1) := dq_27 (by decide +kernel)
theorem dX7_had_18 : decode cX7_had 18 = .ok (.iconst 1, 1) := dq_4 (by decide +kernel)
theorem dX7_had_19 : decode cX7_had 19 = .ok (.aload_n 0, 1) := dq_42 (by decide +kernel)
theorem dX7_had_20 : decode cX7_had 20 = .ok (.getfield 26, 3) := dq_180 (b1 := 0) (b2 := 26) (by decide +kernel) (by decide)
theorem dX7_had_23 : decode cX7_had 23 = .ok (.getfield 135, 3) := dq_180 (b1 := 0) (b2 := 135) (by decide +kernel) (by decide)
theorem dX7_had_26 : decode cX7_had 26 = .ok (.ishl, 1) := dq_120 (by decide +kernel)
theorem dX7_had_27 : decode cX7_had 27 = .ok (.if_icmp .ge 10, 3) := dq_162 (b1 := 0) (b2 := 10) (by decide +kernel) (by decide)
theorem dX7_had_30 : decode cX7_had 30 = .ok (.iload_n 2, 1) := dq_28 (by decide +kernel)
theorem dX7_had_31 : decode cX7_had 31 = .ok (.invokestatic 221, 3) := dq_184 (b1 := 0) (b2 := 221) (by decide +kernel) (by decide)
theorem dX7_had_34 : decode cX7_had 34 = .ok (.ifCond .ne 6, 3) := dq_154 (b1 := 0) (b2 := 6) (by decide +kernel) (by decide)
theorem dX7_had_37 : decode cX7_had 37 = .ok (.ldc 72, 2) := dq_18 (b1 := 72) (by decide +kernel) (by decide)
theorem dX7_had_39 : decode cX7_had 39 = .ok (.ireturn, 1) := dq_172 (by decide +kernel)
theorem dX7_had_4 : decode cX7_had 4 = .ok (.invokevirtual 145, 3) := dq_182 (b1 := 0) (b2 := 145) (by decide +kernel) (by decide)
theorem dX7_had_40 : decode cX7_had 40 = .ok (.aload_n 0, 1) := dq_42 (by decide +kernel)
theorem dX7_had_41 : decode cX7_had 41 = .ok (.getfield 54, 3) := dq_180 (b1 := 0) (b2 := 54) (by decide +kernel) (by decide)
theorem dX7_had_44 : decode cX7_had 44 = .ok (.aload_n 0, 1) := dq_42 (by decide +kernel)
theorem dX7_had_45 : decode cX7_had 45 = .ok (.getfield 26, 3) := dq_180 (b1 := 0) (b2 := 26) (by decide +kernel) (by decide)
theorem dX7_had_48 : decode cX7_had 48 = .ok (.iload_n 2, 1) := dq_28 (by decide +kernel)
theorem dX7_had_49 : decode cX7_had 49 = .ok (.iload_n 1, 1) := dq_27 (by decide +kernel)
theorem dX7_had_50 : decode cX7_had 50 = .ok (.invokevirtual 224, 3) := dq_182 (b1 := 0) (b2 := 224) (by decide +kernel) (by decide)
theorem dX7_had_53 : decode cX7_had 53 = .ok (.aload_n 0, 1) := dq_42 (by decide +kernel)
theorem dX7_had_54 : decode cX7_had 54 = .ok (.getfield 54, 3) := dq_180 (b1 := 0) (b2 := 54) (by decide +kernel) (by decide)
theorem dX7_had_57 : decode cX7_had 57 = .ok (.getfield 228, 3) := dq_180 (b1 := 0) (b2 := 228) (by decide +kernel) (by decide)
theorem dX7_had_60 : decode cX7_had 60 = .ok (.ifCond .ne 8, 3) := dq_154 (b1 := 0) (b2 := 8) (by decide +kernel) (by decide)
theorem dX7_had_63 : decode cX7_had 63 = .ok (.ldc 220, 2) := dq_18 (b1 := 220) (by decide +kernel) (by decide)
theorem dX7_had_65 : decode cX7_had 65 = .ok (.goto 10, 3) := dq_167 (b1 := 0) (b2 := 10) (by decide +kernel) (by decide)
theorem dX7_had_68 : decode cX7_had 68 = .ok (.aload_n 0, 1) := dq_42 (by decide +kernel)
theorem dX7_had_69 : decode cX7_had 69 = .ok (.getfield 54, 3) := dq_180 (b1 := 0) (b2 := 54) (by decide +kernel) (by decide)
theorem dX7_had_7 : decode cX7_had 7 = .ok (.ifCond .ne 6, 3) := dq_154 (b1 := 0) (b2 := 6) (by decide +kernel) (by decide)
theorem dX7_had_72 : decode cX7_had 72 = .ok (.getfield 231, 3) := dq_180 (b1 := 0) (b2 := 231) (by decide +kernel) (by decide)
theorem dX7_had_75 : decode cX7_had 75 = .ok (.ireturn, 1) := dq_172 (by decide +kernel)
theorem dX7_level_0 : decode cX7_level 0 = .ok (.aload_n 0, 1) := dq_42 (by decide +kernel)
theorem dX7_level_1 : decode cX7_level 1 = .ok (.getfield 19, 3) := dq_180 (b1 := 0) (b2 := 19) (by decide +kernel) (by decide)
theorem dX7_level_12 : decode cX7_level 12 = .ok (.aload_n 0, 1) := dq_42 (by decide +kernel)
theorem dX7_level_13 : decode cX7_level 13 = .ok (.iload_n 1, 1) := dq_27 (by decide +kernel)
theorem dX7_level_14 : decode cX7_level 14 = .ok (.putfield 117, 3) := dq_181 (b1 := 0) (b2 := 117) (by decide +kernel) (by decide)
theorem dX7_level_17 : decode cX7_level 17 = .ok (.ldc 121, 2) := dq_18 (b1 := 121) (by decide +kernel) (by decide)
theorem dX7_level_19 : decode cX7_level 19 = .ok (.aload_n 0, 1) := dq_42 (by decide +kernel)
theorem dX7_level_20 : decode cX7_level 20 = .ok (.getfield 19, 3) := dq_180 (b1 := 0) (b2 := 19) (by decide +kernel) (by decide)
theorem dX7_level_23 : decode cX7_level 23 = .ok (.getfield 122, 3) := dq_180 (b1 := 0) (b2 := 122) (by decide +kernel) (by decide)
theorem dX7_level_26 : decode cX7_level 26 = .ok (.isub, 1) := dq_100 (by decide +kernel)
theorem dX7_level_27 : decode cX7_level 27 = .ok (.ireturn, 1) := dq_172 (by decide +kernel)
theorem dX7_level_28 : decode cX7_level 28 = .ok (.aload_n 0, 1) := dq_42 (by decide +kernel)
theorem dX7_level_29 : decode cX7_level 29 = .ok (.getfield 26, 3) := dq_180 (b1 := 0) (b2 := 26) (by decide +kernel) (by decide)
theorem dX7_level_32 : decode cX7_level 32 = .ok (.aload_n 0, 1) := dq_42 (by decide +kernel)
theorem dX7_level_33 : decode cX7_level 33 = .ok (.getfield 19, 3) := dq_180 (b1 := 0) (b2 := 19) (by decide +kernel) (by decide)
theorem dX7_level_36 : decode cX7_level 36 = .ok (.getfield 125, 3) := dq_180 (b1 := 0) (b2 := 125) (by decide +kernel) (by decide)
theorem dX7_level_39 : decode cX7_level 39 = .ok (.invokevirtual 128, 3) := dq_182 (b1 := 0) (b2 := 128) (by decide +kernel) (by decide)
theorem dX7_level_4 : decode cX7_level 4 = .ok (.invokevirtual 113, 3) := dq_182 (b1 := 0) (b2 := 113) (by decide +kernel) (by decide)
theorem dX7_level_42 : decode cX7_level 42 = .ok (.aload_n 0, 1) := dq_42 (by decide +kernel)
theorem dX7_level_43 : decode cX7_level 43 = .ok (.getfield 33, 3) := dq_180 (b1 := 0) (b2 := 33) (by decide +kernel) (by decide)
theorem dX7_level_46 : decode cX7_level 46 = .ok (.invokevirtual 132, 3) := dq_182 (b1 := 0) (b2 := 132) (by decide +kernel) (by decide)
theorem dX7_level_49 : decode cX7_level 49 = .ok (.aload_n 0, 1) := dq_42 (by decide +kernel)
theorem dX7_level_50 : decode cX7_level 50 = .ok (.getfield 26, 3) := dq_180 (b1 := 0) (b2 := 26) (by decide +kernel) (by decide)
theorem dX7_level_53 : decode cX7_level 53 = .ok (.getfield 135, 3) := dq_180 (b1 := 0) (b2 := 135) (by decide +kernel) (by decide)
theorem dX7_level_56 : decode cX7_level 56 = .ok (.ireturn, 1) := dq_172 (by decide +kernel)
theorem dX7_level_7 : decode cX7_level 7 = .ok (.istore_n 1, 1) := dq_60 (by decide +kernel)
theorem dX7_level_8 : decode cX7_level 8 = .ok (.iload_n 1, 1) := dq_27 (by decide +kernel)
theorem dX7_level_9 : decode cX7_level 9 = .ok (.ifCond .eq 19, 3) := dq_153 (b1 := 0) (b2 := 19) (by decide +kernel) (by decide)
theorem dX7_row_0 : decode cX7_row 0 = .ok (.iload_n 1, 1) := dq_27 (by decide +kernel)
theorem dX7_row_1 : decode cX7_row 1 = .ok (.invokestatic 65, 3) := dq_184 (b1 := 0) (b2 := 65) (by decide +kernel) (by decide)
theorem dX7_row_11 : decode cX7_row 11 = .ok (.ifCond .eq 9, 3) := dq_153 (b1 := 0) (b2 := 9) (by decide +kernel) (by decide)
theorem dX7_row_14 : decode cX7_row 14 = .ok (.iload_n 3, 1) := dq_29 (by decide +kernel)
theorem dX7_row_15 : decode cX7_row 15 = .ok (.bipush 40, 2) := dq_16 (b1 := 40) (by decide +kernel) (by decide)
theorem dX7_row_17 : decode cX7_row 17 = .ok (.if_icmp .le 6, 3) := dq_164 (b1 := 0) (b2 := 6) (by decide +kernel) (by decide)
theorem dX7_row_20 : decode cX7_row 20 = .ok (.ldc 72, 2) := dq_18 (b1 := 72) (by decide +kernel) (by decide)
theorem dX7_row_22 : decode cX7_row 22 = .ok (.ireturn, 1) := dq_172 (by decide +kernel)
theorem dX7_row_23 : decode cX7_row 23 = .ok (.iload_n 3, 1) := dq_29 (by decide +kernel)
theorem dX7_row_24 : decode cX7_row 24 = .ok (.ifCond .ge 9, 3) := dq_156 (b1 := 0) (b2 := 9) (by decide +kernel) (by decide)
theorem dX7_row_27 : decode cX7_row 27 = .ok (.aload_n 0, 1) := dq_42 (by decide +kernel)
theorem dX7_row_28 : decode cX7_row 28 = .ok (.iconst 4, 1) := dq_7 (by decide +kernel)
theorem dX7_row_29 : decode cX7_row 29 = .ok (.invokevirtual 73, 3) := dq_182 (b1 := 0) (b2 := 73) (by decide +kernel) (by decide)
theorem dX7_row_32 : decode cX7_row 32 = .ok (.ireturn, 1) := dq_172 (by decide +kernel)
theorem dX7_row_33 : decode cX7_row 33 = .ok (.aload_n 0, 1) := dq_42 (by decide +kernel)
theorem dX7_row_34 : decode cX7_row 34 = .ok (.getfield 10, 3) := dq_180 (b1 := 0) (b2 := 10) (by decide +kernel) (by decide)
theorem dX7_row_37 : decode cX7_row 37 = .ok (.iload_n 1, 1) := dq_27 (by decide +kernel)
theorem dX7_row_38 : decode cX7_row 38 = .ok (.iload_n 2, 1) := dq_28 (by decide +kernel)
theorem dX7_row_39 : decode cX7_row 39 = .ok (.iload_n 3, 1) := dq_29 (by decide +kernel)
theorem dX7_row_4 : decode cX7_row 4 = .ok (.ifCond .eq 16, 3) := dq_153 (b1 := 0) (b2 := 16) (by decide +kernel) (by decide)
theorem dX7_row_40 : decode cX7_row 40 = .ok (.invokevirtual 77, 3) := dq_182 (b1 := 0) (b2 := 77) (by decide +kernel) (by decide)
theorem dX7_row_43 : decode cX7_row 43 = .ok (.aload_n 0, 1) := dq_42 (by decide +kernel)
theorem dX7_row_44 : decode cX7_row 44 = .ok (.iload_n 3, 1) := dq_29 (by decide +kernel)
theorem dX7_row_45 : decode cX7_row 45 = .ok (.invokevirtual 81, 3) := dq_182 (b1 := 0) (b2 := 81) (by decide +kernel) (by decide)
theorem dX7_row_48 : decode cX7_row 48 = .ok (.ireturn, 1) := dq_172 (by decide +kernel)
theorem dX7_row_7 : decode cX7_row 7 = .ok (.iload_n 2, 1) := dq_28 (by decide +kernel)
theorem dX7_row_8 : decode cX7_row 8 = .ok (.invokestatic 69, 3) := dq_184 (b1 := 0) (b2 := 69) (by decide +kernel) (by decide)
theorem dX7_set_0 : decode cX7_set 0 = .ok (.iload_n 1, 1) := dq_27 (by decide +kernel)
theorem dX7_set_1 : decode cX7_set 1 = .ok (.invokestatic 65, 3) := dq_184 (b1 := 0) (b2 := 65) (by decide +kernel) (by decide)
theorem dX7_set_10 : decode cX7_set 10 = .ok (.aload_n 0, 1) := dq_42 (by decide +kernel)
theorem dX7_set_11 : decode cX7_set 11 = .ok (.getfield 10, 3) := dq_180 (b1 := 0) (b2 := 10) (by decide +kernel) (by decide)
theorem dX7_set_14 : decode cX7_set 14 = .ok (.iload_n 1, 1) := dq_27 (by decide +kernel)
theorem dX7_set_15 : decode cX7_set 15 = .ok (.iload_n 2, 1) := dq_28 (by decide +kernel)
theorem dX7_set_16 : decode cX7_set 16 = .ok (.iconst 1, 1) := dq_4 (by decide +kernel)
theorem dX7_set_17 : decode cX7_set 17 = .ok (.invokevirtual 84, 3) := dq_182 (b1 := 0) (b2 := 84) (by decide +kernel) (by decide)
theorem dX7_set_20 : decode cX7_set 20 = .ok (.istore 4, 2) := dq_54 (b1 := 4) (by decide +kernel) (by decide)
theorem dX7_set_22 : decode cX7_set 22 = .ok (.iload 4, 2) := dq_21 (b1 := 4) (by decide +kernel) (by decide)
theorem dX7_set_24 : decode cX7_set 24 = .ok (.ifCond .eq 10, 3) := dq_153 (b1 := 0) (b2 := 10) (by decide +kernel) (by decide)
theorem dX7_set_27 : decode cX7_set 27 = .ok (.aload_n 0, 1) := dq_42 (by decide +kernel)
theorem dX7_set_28 : decode cX7_set 28 = .ok (.iload 4, 2) := dq_21 (b1 := 4) (by decide +kernel) (by decide)
theorem dX7_set_30 : decode cX7_set 30 = .ok (.invokevirtual 73, 3) := dq_182 (b1 := 0) (b2 := 73) (by decide +kernel) (by decide)
theorem dX7_set_33 : decode cX7_set 33 = .ok (.ireturn, 1) := dq_172 (by decide +kernel)
theorem dX7_set_34 : decode cX7_set 34 = .ok (.aload_n 0, 1) := dq_42 (by decide +kernel)
theorem dX7_set_35 : decode cX7_set 35 = .ok (.aload_n 0, 1) := dq_42 (by decide +kernel)
theorem dX7_set_36 : decode cX7_set 36 = .ok (.getfield 10, 3) := dq_180 (b1 := 0) (b2 := 10) (by decide +kernel) (by decide)
theorem dX7_set_39 : decode cX7_set 39 = .ok (.iload_n 1, 1) := dq_27 (by decide +kernel)
theorem dX7_set_4 : decode cX7_set 4 = .ok (.ifCond .ne 6, 3) := dq_154 (b1 := 0) (b2 := 6) (by decide +kernel) (by decide)
theorem dX7_set_40 : decode cX7_set 40 = .ok (.iload_n 2, 1) := dq_28 (by decide +kernel)
theorem dX7_set_41 : decode cX7_set 41 = .ok (.iload_n 3, 1) := dq_29 (by decide +kernel)
theorem dX7_set_42 : decode cX7_set 42 = .ok (.invokevirtual 88, 3) := dq_182 (b1 := 0) (b2 := 88) (by decide +kernel) (by decide)
theorem dX7_set_45 : decode cX7_set 45 = .ok (.invokevirtual 81, 3) := dq_182 (b1 := 0) (b2 := 81) (by decide +kernel) (by decide)
theorem dX7_set_48 : decode cX7_set 48 = .ok (.ireturn, 1) := dq_172 (by decide +kernel)
theorem dX7_set_7 : decode cX7_set 7 = .ok (.ldc 72, 2) := dq_18 (b1 := 72) (by decide +kernel) (by decide)
theorem dX7_set_9 : decode cX7_set 9 = .ok (.ireturn, 1) := dq_172 (by decide +kernel)
theorem mb_X4_comesTo_wsX4_comesTo_r1 {w : Cond} (h : w ∈ wsX4_comesTo_r1) : w ∈ wsX4_comesTo := by unfold wsX4_comesTo; exact List.mem_cons_of_mem _ (List.mem_append_left _ (List.mem_append_left _ (List.mem_append_left _ (h))))
theorem mx_X4_comesTo_11 : Cond.code yX3_becomeLike cX3_becomeLike 2 none ∈ wsX4_comesTo := mb_X4_comesTo_wsX4_comesTo_r1 (List.mem_of_getElem? (i := 10) rfl)
theorem mx_X4_comesTo_12 : Cond.fieldLink RX3 27 "MillTalk$Level" "cells" "I" ∈ wsX4_comesTo := mb_X4_comesTo_wsX4_comesTo_r1 (List.mem_of_getElem? (i := 11) rfl)
theorem mx_X4_comesTo_13 : Cond.fieldLink RX3 31 "MillTalk$Level" "mill" "I" ∈ wsX4_comesTo := mb_X4_comesTo_wsX4_comesTo_r1 (List.mem_of_getElem? (i := 12) rfl)
theorem mx_X4_comesTo_14 : Cond.fieldLink RX3 34 "MillTalk$Level" "reach" "I" ∈ wsX4_comesTo := mb_X4_comesTo_wsX4_comesTo_r1 (List.mem_of_getElem? (i := 13) rfl)
theorem mx_X4_comesTo_15 : Cond.fieldLink RX3 37 "MillTalk$Level" "cap" "I" ∈ wsX4_comesTo := mb_X4_comesTo_wsX4_comesTo_r1 (List.mem_of_getElem? (i := 14) rfl)
theorem mx_X4_comesTo_16 : Cond.fieldLink RX3 40 "MillTalk$Level" "hour" "I" ∈ wsX4_comesTo := mb_X4_comesTo_wsX4_comesTo_r1 (List.mem_of_getElem? (i := 15) rfl)
theorem mx_X4_comesTo_17 : Cond.fieldLink RX3 43 "MillTalk$Level" "meal" "I" ∈ wsX4_comesTo := mb_X4_comesTo_wsX4_comesTo_r1 (List.mem_of_getElem? (i := 16) rfl)
theorem mx_X4_comesTo_18 : Cond.fieldLink RX3 46 "MillTalk$Level" "windCount" "I" ∈ wsX4_comesTo := mb_X4_comesTo_wsX4_comesTo_r1 (List.mem_of_getElem? (i := 17) rfl)
theorem mx_X4_comesTo_19 : Cond.fieldLink RX3 49 "MillTalk$Level" "soundCount" "I" ∈ wsX4_comesTo := mb_X4_comesTo_wsX4_comesTo_r1 (List.mem_of_getElem? (i := 18) rfl)
theorem mx_X4_comesTo_20 : Cond.fieldLink RX3 9 "MillTalk$Level" "winds" "[I" ∈ wsX4_comesTo := mb_X4_comesTo_wsX4_comesTo_r1 (List.mem_of_getElem? (i := 19) rfl)
theorem mx_X4_comesTo_21 : Cond.methodLink RX3 52 arraycopyName ∈ wsX4_comesTo := mb_X4_comesTo_wsX4_comesTo_r1 (List.mem_of_getElem? (i := 20) rfl)
theorem mx_X4_comesTo_22 : Cond.native arraycopyName ∈ wsX4_comesTo := mb_X4_comesTo_wsX4_comesTo_r1 (List.mem_of_getElem? (i := 21) rfl)
theorem mx_X4_comesTo_23 : Cond.static arraycopyName ∈ wsX4_comesTo := mb_X4_comesTo_wsX4_comesTo_r1 (List.mem_of_getElem? (i := 22) rfl)
theorem mx_X4_comesTo_24 : Cond.initialized "java/lang/System" ∈ wsX4_comesTo := mb_X4_comesTo_wsX4_comesTo_r1 (List.mem_of_getElem? (i := 23) rfl)
theorem mb_X4_comesTo_wsX4_comesTo_r2 {w : Cond} (h : w ∈ wsX4_comesTo_r2) : w ∈ wsX4_comesTo := by unfold wsX4_comesTo; exact List.mem_cons_of_mem _ (List.mem_append_left _ (List.mem_append_left _ (List.mem_append_right _ (List.mem_append_left _ (h)))))
theorem mx_X4_comesTo_25 : Cond.fieldLink RX3 15 "MillTalk$Level" "kinds" "[I" ∈ wsX4_comesTo := mb_X4_comesTo_wsX4_comesTo_r2 (List.mem_of_getElem? (i := 0) rfl)
theorem mx_X4_comesTo_26 : Cond.fieldLink RX3 18 "MillTalk$Level" "places" "[I" ∈ wsX4_comesTo := mb_X4_comesTo_wsX4_comesTo_r2 (List.mem_of_getElem? (i := 1) rfl)
theorem mx_X4_comesTo_27 : Cond.fieldLink RX3 21 "MillTalk$Level" "louds" "[I" ∈ wsX4_comesTo := mb_X4_comesTo_wsX4_comesTo_r2 (List.mem_of_getElem? (i := 2) rfl)
theorem mx_X4_comesTo_28 : Cond.fieldLink RX3 24 "MillTalk$Level" "hows" "[I" ∈ wsX4_comesTo := mb_X4_comesTo_wsX4_comesTo_r2 (List.mem_of_getElem? (i := 3) rfl)
theorem mb_X4_comesTo_wsX30 {w : Cond} (h : w ∈ wsX30) : w ∈ wsX4_comesTo := by unfold wsX4_comesTo; exact List.mem_cons_of_mem _ (List.mem_append_right _ (h))
theorem ggX4_comesTo_X3_becomeLike : GoodIn wsX4_comesTo wsX3_becomeLike := goodIn_sub (by unfold wsX3_becomeLike; exact List.forall_mem_cons.mpr ⟨mx_X4_comesTo_11, List.forall_mem_append.mpr ⟨List.forall_mem_cons.mpr ⟨mx_X4_comesTo_12, List.forall_mem_cons.mpr ⟨mx_X4_comesTo_13, List.forall_mem_cons.mpr ⟨mx_X4_comesTo_14, List.forall_mem_cons.mpr ⟨mx_X4_comesTo_15, List.forall_mem_cons.mpr ⟨mx_X4_comesTo_16, List.forall_mem_cons.mpr ⟨mx_X4_comesTo_17, List.forall_mem_cons.mpr ⟨mx_X4_comesTo_18, List.forall_mem_cons.mpr ⟨mx_X4_comesTo_19, List.forall_mem_cons.mpr ⟨mx_X4_comesTo_20, List.forall_mem_cons.mpr ⟨mx_X4_comesTo_21, List.forall_mem_cons.mpr ⟨mx_X4_comesTo_22, List.forall_mem_cons.mpr ⟨mx_X4_comesTo_23, List.forall_mem_cons.mpr ⟨mx_X4_comesTo_24, List.forall_mem_cons.mpr ⟨mx_X4_comesTo_25, List.forall_mem_cons.mpr ⟨mx_X4_comesTo_26, List.forall_mem_cons.mpr ⟨mx_X4_comesTo_27, List.forall_mem_cons.mpr ⟨mx_X4_comesTo_28, fun _ h_ => absurd h_ List.not_mem_nil⟩⟩⟩⟩⟩⟩⟩⟩⟩⟩⟩⟩⟩⟩⟩⟩⟩, (fun _ h_ => mb_X4_comesTo_wsX30 h_)⟩⟩) (by decide +kernel)
theorem mx_X4_comesTo_7 : Cond.methodLink RX4 19 yX3_becomeLike ∈ wsX4_comesTo := mb_X4_comesTo_wsX4_comesTo_r1 (List.mem_of_getElem? (i := 6) rfl)
theorem mx_X4_comesTo_8 : Cond.instanceMethod yX3_becomeLike ∈ wsX4_comesTo := mb_X4_comesTo_wsX4_comesTo_r1 (List.mem_of_getElem? (i := 7) rfl)
theorem mx_X4_comesTo_9 : Cond.selects RX3 yX3_becomeLike yX3_becomeLike ∈ wsX4_comesTo := mb_X4_comesTo_wsX4_comesTo_r1 (List.mem_of_getElem? (i := 8) rfl)
theorem mx_X4_comesTo_10 : Cond.initialized RX3 ∈ wsX4_comesTo := mb_X4_comesTo_wsX4_comesTo_r1 (List.mem_of_getElem? (i := 9) rfl)
theorem gX4_comesTo_X3_becomeLike : GoodIn wsX4_comesTo (wsV RX4 19 RX3 yX3_becomeLike wsX3_becomeLike) := goodIn_app (goodIn_sub (List.forall_mem_cons.mpr ⟨mx_X4_comesTo_7, List.forall_mem_cons.mpr ⟨mx_X4_comesTo_8, List.forall_mem_cons.mpr ⟨mx_X4_comesTo_9, List.forall_mem_cons.mpr ⟨mx_X4_comesTo_10, fun _ h_ => absurd h_ List.not_mem_nil⟩⟩⟩⟩) (by decide +kernel)) ggX4_comesTo_X3_becomeLike
theorem mx_X4_comesTo_33 : Cond.code yX4_bestFor cX4_bestFor 5 (some .int) ∈ wsX4_comesTo := mb_X4_comesTo_wsX4_comesTo_r2 (List.mem_of_getElem? (i := 8) rfl)
theorem mx_X4_comesTo_34 : Cond.fieldLink RX4 16 "MillTalk$Play" "outcome" "LMillTalk$Level;" ∈ wsX4_comesTo := mb_X4_comesTo_wsX4_comesTo_r2 (List.mem_of_getElem? (i := 9) rfl)
theorem mx_X4_comesTo_1 : Cond.fieldLink RX4 10 "MillTalk$Play" "board" "LMillTalk$Level;" ∈ wsX4_comesTo := mb_X4_comesTo_wsX4_comesTo_r1 (List.mem_of_getElem? (i := 0) rfl)
theorem mx_X4_comesTo_2 : Cond.fieldLink RX4 23 "MillTalk$Play" "hours" "I" ∈ wsX4_comesTo := mb_X4_comesTo_wsX4_comesTo_r1 (List.mem_of_getElem? (i := 1) rfl)
theorem mx_X4_comesTo_35 : Cond.methodLink RX4 45 Lib.Math.max.name ∈ wsX4_comesTo := mb_X4_comesTo_wsX4_comesTo_r2 (List.mem_of_getElem? (i := 10) rfl)
theorem mx_X4_comesTo_36 : Cond.static Lib.Math.max.name ∈ wsX4_comesTo := mb_X4_comesTo_wsX4_comesTo_r2 (List.mem_of_getElem? (i := 11) rfl)
theorem mx_X4_comesTo_5 : Cond.initialized "java/lang/Math" ∈ wsX4_comesTo := mb_X4_comesTo_wsX4_comesTo_r1 (List.mem_of_getElem? (i := 4) rfl)
theorem mx_X4_comesTo_37 : Cond.code Lib.Math.max.name Lib.Math.max.code 2 (some .int) ∈ wsX4_comesTo := mb_X4_comesTo_wsX4_comesTo_r2 (List.mem_of_getElem? (i := 12) rfl)
theorem mx_X4_comesTo_3 : Cond.methodLink RX4 27 Lib.Math.min.name ∈ wsX4_comesTo := mb_X4_comesTo_wsX4_comesTo_r1 (List.mem_of_getElem? (i := 2) rfl)
theorem mx_X4_comesTo_4 : Cond.static Lib.Math.min.name ∈ wsX4_comesTo := mb_X4_comesTo_wsX4_comesTo_r1 (List.mem_of_getElem? (i := 3) rfl)
theorem mx_X4_comesTo_6 : Cond.code Lib.Math.min.name Lib.Math.min.code 2 (some .int) ∈ wsX4_comesTo := mb_X4_comesTo_wsX4_comesTo_r1 (List.mem_of_getElem? (i := 5) rfl)
theorem mx_X4_comesTo_38 : Cond.methodLink RX4 37 yX3_mealBehind ∈ wsX4_comesTo := mb_X4_comesTo_wsX4_comesTo_r2 (List.mem_of_getElem? (i := 13) rfl)
theorem mx_X4_comesTo_39 : Cond.instanceMethod yX3_mealBehind ∈ wsX4_comesTo := mb_X4_comesTo_wsX4_comesTo_r2 (List.mem_of_getElem? (i := 14) rfl)
theorem mx_X4_comesTo_40 : Cond.selects RX3 yX3_mealBehind yX3_mealBehind ∈ wsX4_comesTo := mb_X4_comesTo_wsX4_comesTo_r2 (List.mem_of_getElem? (i := 15) rfl)
theorem mx_X4_comesTo_41 : Cond.code yX3_mealBehind cX3_mealBehind 3 (some .int) ∈ wsX4_comesTo := mb_X4_comesTo_wsX4_comesTo_r2 (List.mem_of_getElem? (i := 16) rfl)
theorem mx_X4_comesTo_42 : Cond.methodLink RX3 94 yX3_pass ∈ wsX4_comesTo := mb_X4_comesTo_wsX4_comesTo_r2 (List.mem_of_getElem? (i := 17) rfl)
theorem mx_X4_comesTo_43 : Cond.instanceMethod yX3_pass ∈ wsX4_comesTo := mb_X4_comesTo_wsX4_comesTo_r2 (List.mem_of_getElem? (i := 18) rfl)
theorem mx_X4_comesTo_44 : Cond.selects RX3 yX3_pass yX3_pass ∈ wsX4_comesTo := mb_X4_comesTo_wsX4_comesTo_r2 (List.mem_of_getElem? (i := 19) rfl)
theorem mx_X4_comesTo_45 : Cond.code yX3_pass cX3_pass 3 none ∈ wsX4_comesTo := mb_X4_comesTo_wsX4_comesTo_r2 (List.mem_of_getElem? (i := 20) rfl)
theorem mx_X4_comesTo_46 : Cond.methodLink RX3 87 yX3_windOn ∈ wsX4_comesTo := mb_X4_comesTo_wsX4_comesTo_r2 (List.mem_of_getElem? (i := 21) rfl)
theorem mx_X4_comesTo_47 : Cond.instanceMethod yX3_windOn ∈ wsX4_comesTo := mb_X4_comesTo_wsX4_comesTo_r2 (List.mem_of_getElem? (i := 22) rfl)
theorem mx_X4_comesTo_48 : Cond.selects RX3 yX3_windOn yX3_windOn ∈ wsX4_comesTo := mb_X4_comesTo_wsX4_comesTo_r2 (List.mem_of_getElem? (i := 23) rfl)
theorem mb_X4_comesTo_wsX4_comesTo_r3 {w : Cond} (h : w ∈ wsX4_comesTo_r3) : w ∈ wsX4_comesTo := by unfold wsX4_comesTo; exact List.mem_cons_of_mem _ (List.mem_append_left _ (List.mem_append_left _ (List.mem_append_right _ (List.mem_append_right _ (List.mem_append_left _ (h))))))
theorem mx_X4_comesTo_49 : Cond.code yX3_windOn cX3_windOn 2 (some .int) ∈ wsX4_comesTo := mb_X4_comesTo_wsX4_comesTo_r3 (List.mem_of_getElem? (i := 0) rfl)
theorem mx_X4_comesTo_50 : Cond.methodLink RX3 90 yX3_passSound ∈ wsX4_comesTo := mb_X4_comesTo_wsX4_comesTo_r3 (List.mem_of_getElem? (i := 1) rfl)
theorem mx_X4_comesTo_51 : Cond.instanceMethod yX3_passSound ∈ wsX4_comesTo := mb_X4_comesTo_wsX4_comesTo_r3 (List.mem_of_getElem? (i := 2) rfl)
theorem mx_X4_comesTo_52 : Cond.selects RX3 yX3_passSound yX3_passSound ∈ wsX4_comesTo := mb_X4_comesTo_wsX4_comesTo_r3 (List.mem_of_getElem? (i := 3) rfl)
theorem mx_X4_comesTo_53 : Cond.code yX3_passSound cX3_passSound 5 none ∈ wsX4_comesTo := mb_X4_comesTo_wsX4_comesTo_r3 (List.mem_of_getElem? (i := 4) rfl)
theorem mx_X4_comesTo_54 : Cond.methodLink RX3 63 Lib.Math.min.name ∈ wsX4_comesTo := mb_X4_comesTo_wsX4_comesTo_r3 (List.mem_of_getElem? (i := 5) rfl)
theorem mx_X4_comesTo_55 : Cond.methodLink RX3 58 yX3_isLoose ∈ wsX4_comesTo := mb_X4_comesTo_wsX4_comesTo_r3 (List.mem_of_getElem? (i := 6) rfl)
theorem mx_X4_comesTo_56 : Cond.instanceMethod yX3_isLoose ∈ wsX4_comesTo := mb_X4_comesTo_wsX4_comesTo_r3 (List.mem_of_getElem? (i := 7) rfl)
theorem mx_X4_comesTo_57 : Cond.selects RX3 yX3_isLoose yX3_isLoose ∈ wsX4_comesTo := mb_X4_comesTo_wsX4_comesTo_r3 (List.mem_of_getElem? (i := 8) rfl)
theorem mx_X4_comesTo_58 : Cond.code yX3_isLoose cX3_isLoose 2 (some .boolean) ∈ wsX4_comesTo := mb_X4_comesTo_wsX4_comesTo_r3 (List.mem_of_getElem? (i := 9) rfl)
theorem mx_X4_comesTo_59 : Cond.methodLink RX3 69 yX3_driftOf ∈ wsX4_comesTo := mb_X4_comesTo_wsX4_comesTo_r3 (List.mem_of_getElem? (i := 10) rfl)
theorem mx_X4_comesTo_60 : Cond.instanceMethod yX3_driftOf ∈ wsX4_comesTo := mb_X4_comesTo_wsX4_comesTo_r3 (List.mem_of_getElem? (i := 11) rfl)
theorem mx_X4_comesTo_61 : Cond.selects RX3 yX3_driftOf yX3_driftOf ∈ wsX4_comesTo := mb_X4_comesTo_wsX4_comesTo_r3 (List.mem_of_getElem? (i := 12) rfl)
theorem mx_X4_comesTo_62 : Cond.code yX3_driftOf cX3_driftOf 4 (some .int) ∈ wsX4_comesTo := mb_X4_comesTo_wsX4_comesTo_r3 (List.mem_of_getElem? (i := 13) rfl)
theorem mx_X4_comesTo_63 : Cond.methodLink RX3 72 yX3_loudBehindHour ∈ wsX4_comesTo := mb_X4_comesTo_wsX4_comesTo_r3 (List.mem_of_getElem? (i := 14) rfl)
theorem mx_X4_comesTo_64 : Cond.instanceMethod yX3_loudBehindHour ∈ wsX4_comesTo := mb_X4_comesTo_wsX4_comesTo_r3 (List.mem_of_getElem? (i := 15) rfl)
theorem mx_X4_comesTo_65 : Cond.selects RX3 yX3_loudBehindHour yX3_loudBehindHour ∈ wsX4_comesTo := mb_X4_comesTo_wsX4_comesTo_r3 (List.mem_of_getElem? (i := 16) rfl)
theorem mx_X4_comesTo_66 : Cond.code yX3_loudBehindHour cX3_loudBehindHour 2 (some .int) ∈ wsX4_comesTo := mb_X4_comesTo_wsX4_comesTo_r3 (List.mem_of_getElem? (i := 17) rfl)
theorem mx_X4_comesTo_67 : Cond.methodLink RX3 76 yX3_hasCell ∈ wsX4_comesTo := mb_X4_comesTo_wsX4_comesTo_r3 (List.mem_of_getElem? (i := 18) rfl)
theorem mx_X4_comesTo_68 : Cond.instanceMethod yX3_hasCell ∈ wsX4_comesTo := mb_X4_comesTo_wsX4_comesTo_r3 (List.mem_of_getElem? (i := 19) rfl)
theorem mx_X4_comesTo_69 : Cond.selects RX3 yX3_hasCell yX3_hasCell ∈ wsX4_comesTo := mb_X4_comesTo_wsX4_comesTo_r3 (List.mem_of_getElem? (i := 20) rfl)
theorem mx_X4_comesTo_70 : Cond.code yX3_hasCell cX3_hasCell 2 (some .boolean) ∈ wsX4_comesTo := mb_X4_comesTo_wsX4_comesTo_r3 (List.mem_of_getElem? (i := 21) rfl)
theorem mx_X4_comesTo_71 : Cond.methodLink RX3 79 yX3_letLoose ∈ wsX4_comesTo := mb_X4_comesTo_wsX4_comesTo_r3 (List.mem_of_getElem? (i := 22) rfl)
theorem mx_X4_comesTo_72 : Cond.instanceMethod yX3_letLoose ∈ wsX4_comesTo := mb_X4_comesTo_wsX4_comesTo_r3 (List.mem_of_getElem? (i := 23) rfl)
theorem mb_X4_comesTo_wsX4_comesTo_r4 {w : Cond} (h : w ∈ wsX4_comesTo_r4) : w ∈ wsX4_comesTo := by unfold wsX4_comesTo; exact List.mem_cons_of_mem _ (List.mem_append_left _ (List.mem_append_left _ (List.mem_append_right _ (List.mem_append_right _ (List.mem_append_right _ (h))))))
theorem mx_X4_comesTo_73 : Cond.selects RX3 yX3_letLoose yX3_letLoose ∈ wsX4_comesTo := mb_X4_comesTo_wsX4_comesTo_r4 (List.mem_of_getElem? (i := 0) rfl)
theorem mx_X4_comesTo_74 : Cond.code yX3_letLoose cX3_letLoose 4 none ∈ wsX4_comesTo := mb_X4_comesTo_wsX4_comesTo_r4 (List.mem_of_getElem? (i := 1) rfl)
theorem mx_X4_comesTo_75 : Cond.methodLink RX3 83 yX3_grindsAt ∈ wsX4_comesTo := mb_X4_comesTo_wsX4_comesTo_r4 (List.mem_of_getElem? (i := 2) rfl)
theorem mx_X4_comesTo_76 : Cond.instanceMethod yX3_grindsAt ∈ wsX4_comesTo := mb_X4_comesTo_wsX4_comesTo_r4 (List.mem_of_getElem? (i := 3) rfl)
theorem mx_X4_comesTo_77 : Cond.selects RX3 yX3_grindsAt yX3_grindsAt ∈ wsX4_comesTo := mb_X4_comesTo_wsX4_comesTo_r4 (List.mem_of_getElem? (i := 4) rfl)
theorem mx_X4_comesTo_78 : Cond.code yX3_grindsAt cX3_grindsAt 4 (some .boolean) ∈ wsX4_comesTo := mb_X4_comesTo_wsX4_comesTo_r4 (List.mem_of_getElem? (i := 5) rfl)
theorem mx_X4_comesTo_29 : Cond.methodLink RX4 33 yX4_bestFor ∈ wsX4_comesTo := mb_X4_comesTo_wsX4_comesTo_r2 (List.mem_of_getElem? (i := 4) rfl)
theorem mx_X4_comesTo_30 : Cond.instanceMethod yX4_bestFor ∈ wsX4_comesTo := mb_X4_comesTo_wsX4_comesTo_r2 (List.mem_of_getElem? (i := 5) rfl)
theorem mx_X4_comesTo_31 : Cond.selects RX4 yX4_bestFor yX4_bestFor ∈ wsX4_comesTo := mb_X4_comesTo_wsX4_comesTo_r2 (List.mem_of_getElem? (i := 6) rfl)
theorem mx_X4_comesTo_32 : Cond.initialized RX4 ∈ wsX4_comesTo := mb_X4_comesTo_wsX4_comesTo_r2 (List.mem_of_getElem? (i := 7) rfl)
theorem mx_X4_comesTo_79 : Cond.methodLink RX4 41 yX4_turn ∈ wsX4_comesTo := mb_X4_comesTo_wsX4_comesTo_r4 (List.mem_of_getElem? (i := 6) rfl)
theorem mx_X4_comesTo_80 : Cond.instanceMethod yX4_turn ∈ wsX4_comesTo := mb_X4_comesTo_wsX4_comesTo_r4 (List.mem_of_getElem? (i := 7) rfl)
theorem mx_X4_comesTo_81 : Cond.selects RX4 yX4_turn yX4_turn ∈ wsX4_comesTo := mb_X4_comesTo_wsX4_comesTo_r4 (List.mem_of_getElem? (i := 8) rfl)
theorem mx_X4_comesTo_82 : Cond.code yX4_turn cX4_turn 2 none ∈ wsX4_comesTo := mb_X4_comesTo_wsX4_comesTo_r4 (List.mem_of_getElem? (i := 9) rfl)
theorem mx_X4_comesTo_83 : Cond.methodLink RX4 48 yX3_turnCap ∈ wsX4_comesTo := mb_X4_comesTo_wsX4_comesTo_r4 (List.mem_of_getElem? (i := 10) rfl)
theorem mx_X4_comesTo_84 : Cond.instanceMethod yX3_turnCap ∈ wsX4_comesTo := mb_X4_comesTo_wsX4_comesTo_r4 (List.mem_of_getElem? (i := 11) rfl)
theorem mx_X4_comesTo_85 : Cond.selects RX3 yX3_turnCap yX3_turnCap ∈ wsX4_comesTo := mb_X4_comesTo_wsX4_comesTo_r4 (List.mem_of_getElem? (i := 12) rfl)
theorem mx_X4_comesTo_86 : Cond.code yX3_turnCap cX3_turnCap 1 none ∈ wsX4_comesTo := mb_X4_comesTo_wsX4_comesTo_r4 (List.mem_of_getElem? (i := 13) rfl)
theorem mx_X4_comesTo_87 : Cond.methodLink RX4 51 yX3_turnWind ∈ wsX4_comesTo := mb_X4_comesTo_wsX4_comesTo_r4 (List.mem_of_getElem? (i := 14) rfl)
theorem mx_X4_comesTo_88 : Cond.instanceMethod yX3_turnWind ∈ wsX4_comesTo := mb_X4_comesTo_wsX4_comesTo_r4 (List.mem_of_getElem? (i := 15) rfl)
theorem mx_X4_comesTo_89 : Cond.selects RX3 yX3_turnWind yX3_turnWind ∈ wsX4_comesTo := mb_X4_comesTo_wsX4_comesTo_r4 (List.mem_of_getElem? (i := 16) rfl)
theorem mx_X4_comesTo_90 : Cond.code yX3_turnWind cX3_turnWind 2 none ∈ wsX4_comesTo := mb_X4_comesTo_wsX4_comesTo_r4 (List.mem_of_getElem? (i := 17) rfl)
theorem mb_X4_comesTo_wsX40 {w : Cond} (h : w ∈ wsX40) : w ∈ wsX4_comesTo := by unfold wsX4_comesTo; exact List.mem_cons_of_mem _ (List.mem_append_left _ (List.mem_append_right _ (h)))
theorem ggX4_comesTo_X4_bestFor : GoodIn wsX4_comesTo wsX4_bestFor := goodIn_sub (by unfold wsX4_bestFor; exact List.forall_mem_cons.mpr ⟨mx_X4_comesTo_33, List.forall_mem_append.mpr ⟨List.forall_mem_append.mpr ⟨List.forall_mem_append.mpr ⟨(by unfold wsX4_bestFor_r1; exact List.forall_mem_cons.mpr ⟨mx_X4_comesTo_34, List.forall_mem_cons.mpr ⟨mx_X4_comesTo_1, List.forall_mem_cons.mpr ⟨mx_X4_comesTo_2, List.forall_mem_cons.mpr ⟨mx_X4_comesTo_35, List.forall_mem_cons.mpr ⟨mx_X4_comesTo_36, List.forall_mem_cons.mpr ⟨mx_X4_comesTo_5, List.forall_mem_cons.mpr ⟨mx_X4_comesTo_37, List.forall_mem_cons.mpr ⟨mx_X4_comesTo_3, List.forall_mem_cons.mpr ⟨mx_X4_comesTo_4, List.forall_mem_cons.mpr ⟨mx_X4_comesTo_6, List.forall_mem_cons.mpr ⟨mx_X4_comesTo_7, List.forall_mem_cons.mpr ⟨mx_X4_comesTo_8, List.forall_mem_cons.mpr ⟨mx_X4_comesTo_9, List.forall_mem_cons.mpr ⟨mx_X4_comesTo_10, List.forall_mem_cons.mpr ⟨mx_X4_comesTo_11, List.forall_mem_cons.mpr ⟨mx_X4_comesTo_12, List.forall_mem_cons.mpr ⟨mx_X4_comesTo_13, List.forall_mem_cons.mpr ⟨mx_X4_comesTo_14, List.forall_mem_cons.mpr ⟨mx_X4_comesTo_15, List.forall_mem_cons.mpr ⟨mx_X4_comesTo_16, List.forall_mem_cons.mpr ⟨mx_X4_comesTo_17, List.forall_mem_cons.mpr ⟨mx_X4_comesTo_18, List.forall_mem_cons.mpr ⟨mx_X4_comesTo_19, List.forall_mem_cons.mpr ⟨mx_X4_comesTo_20, fun _ h_ => absurd h_ List.not_mem_nil⟩⟩⟩⟩⟩⟩⟩⟩⟩⟩⟩⟩⟩⟩⟩⟩⟩⟩⟩⟩⟩⟩⟩⟩), List.forall_mem_append.mpr ⟨(by unfold wsX4_bestFor_r2; exact List.forall_mem_cons.mpr ⟨mx_X4_comesTo_21, List.forall_mem_cons.mpr ⟨mx_X4_comesTo_22, List.forall_mem_cons.mpr ⟨mx_X4_comesTo_23, List.forall_mem_cons.mpr ⟨mx_X4_comesTo_24, List.forall_mem_cons.mpr ⟨mx_X4_comesTo_25, List.forall_mem_cons.mpr ⟨mx_X4_comesTo_26, List.forall_mem_cons.mpr ⟨mx_X4_comesTo_27, List.forall_mem_cons.mpr ⟨mx_X4_comesTo_28, List.forall_mem_cons.mpr ⟨mx_X4_comesTo_38, List.forall_mem_cons.mpr ⟨mx_X4_comesTo_39, List.forall_mem_cons.mpr ⟨mx_X4_comesTo_40, List.forall_mem_cons.mpr ⟨mx_X4_comesTo_41, List.forall_mem_cons.mpr ⟨mx_X4_comesTo_42, List.forall_mem_cons.mpr ⟨mx_X4_comesTo_43, List.forall_mem_cons.mpr ⟨mx_X4_comesTo_44, List.forall_mem_cons.mpr ⟨mx_X4_comesTo_45, List.forall_mem_cons.mpr ⟨mx_X4_comesTo_46, List.forall_mem_cons.mpr ⟨mx_X4_comesTo_47, List.forall_mem_cons.mpr ⟨mx_X4_comesTo_48, List.forall_mem_cons.mpr ⟨mx_X4_comesTo_49, List.forall_mem_cons.mpr ⟨mx_X4_comesTo_50, List.forall_mem_cons.mpr ⟨mx_X4_comesTo_51, List.forall_mem_cons.mpr ⟨mx_X4_comesTo_52, List.forall_mem_cons.mpr ⟨mx_X4_comesTo_53, fun _ h_ => absurd h_ List.not_mem_nil⟩⟩⟩⟩⟩⟩⟩⟩⟩⟩⟩⟩⟩⟩⟩⟩⟩⟩⟩⟩⟩⟩⟩⟩), List.forall_mem_append.mpr ⟨(by unfold wsX4_bestFor_r3; exact List.forall_mem_cons.mpr ⟨mx_X4_comesTo_54, List.forall_mem_cons.mpr ⟨mx_X4_comesTo_55, List.forall_mem_cons.mpr ⟨mx_X4_comesTo_56, List.forall_mem_cons.mpr ⟨mx_X4_comesTo_57, List.forall_mem_cons.mpr ⟨mx_X4_comesTo_58, List.forall_mem_cons.mpr ⟨mx_X4_comesTo_59, List.forall_mem_cons.mpr ⟨mx_X4_comesTo_60, List.forall_mem_cons.mpr ⟨mx_X4_comesTo_61, List.forall_mem_cons.mpr ⟨mx_X4_comesTo_62, List.forall_mem_cons.mpr ⟨mx_X4_comesTo_63, List.forall_mem_cons.mpr ⟨mx_X4_comesTo_64, List.forall_mem_cons.mpr ⟨mx_X4_comesTo_65, List.forall_mem_cons.mpr ⟨mx_X4_comesTo_66, List.forall_mem_cons.mpr ⟨mx_X4_comesTo_67, List.forall_mem_cons.mpr ⟨mx_X4_comesTo_68, List.forall_mem_cons.mpr ⟨mx_X4_comesTo_69, List.forall_mem_cons.mpr ⟨mx_X4_comesTo_70, List.forall_mem_cons.mpr ⟨mx_X4_comesTo_71, List.forall_mem_cons.mpr ⟨mx_X4_comesTo_72, List.forall_mem_cons.mpr ⟨mx_X4_comesTo_73, List.forall_mem_cons.mpr ⟨mx_X4_comesTo_74, List.forall_mem_cons.mpr ⟨mx_X4_comesTo_75, List.forall_mem_cons.mpr ⟨mx_X4_comesTo_76, List.forall_mem_cons.mpr ⟨mx_X4_comesTo_77, fun _ h_ => absurd h_ List.not_mem_nil⟩⟩⟩⟩⟩⟩⟩⟩⟩⟩⟩⟩⟩⟩⟩⟩⟩⟩⟩⟩⟩⟩⟩⟩), (by unfold wsX4_bestFor_r4; exact List.forall_mem_cons.mpr ⟨mx_X4_comesTo_78, List.forall_mem_cons.mpr ⟨mx_X4_comesTo_29, List.forall_mem_cons.mpr ⟨mx_X4_comesTo_30, List.forall_mem_cons.mpr ⟨mx_X4_comesTo_31, List.forall_mem_cons.mpr ⟨mx_X4_comesTo_32, List.forall_mem_cons.mpr ⟨mx_X4_comesTo_79, List.forall_mem_cons.mpr ⟨mx_X4_comesTo_80, List.forall_mem_cons.mpr ⟨mx_X4_comesTo_81, List.forall_mem_cons.mpr ⟨mx_X4_comesTo_82, List.forall_mem_cons.mpr ⟨mx_X4_comesTo_83, List.forall_mem_cons.mpr ⟨mx_X4_comesTo_84, List.forall_mem_cons.mpr ⟨mx_X4_comesTo_85, List.forall_mem_cons.mpr ⟨mx_X4_comesTo_86, List.forall_mem_cons.mpr ⟨mx_X4_comesTo_87, List.forall_mem_cons.mpr ⟨mx_X4_comesTo_88, List.forall_mem_cons.mpr ⟨mx_X4_comesTo_89, List.forall_mem_cons.mpr ⟨mx_X4_comesTo_90, fun _ h_ => absurd h_ List.not_mem_nil⟩⟩⟩⟩⟩⟩⟩⟩⟩⟩⟩⟩⟩⟩⟩⟩⟩)⟩⟩⟩, (fun _ h_ => mb_X4_comesTo_wsX40 h_)⟩, (fun _ h_ => mb_X4_comesTo_wsX30 h_)⟩⟩) (by decide +kernel)
theorem gX4_comesTo_X4_bestFor : GoodIn wsX4_comesTo (wsV RX4 33 RX4 yX4_bestFor wsX4_bestFor) := goodIn_app (goodIn_sub (List.forall_mem_cons.mpr ⟨mx_X4_comesTo_29, List.forall_mem_cons.mpr ⟨mx_X4_comesTo_30, List.forall_mem_cons.mpr ⟨mx_X4_comesTo_31, List.forall_mem_cons.mpr ⟨mx_X4_comesTo_32, fun _ h_ => absurd h_ List.not_mem_nil⟩⟩⟩⟩) (by decide +kernel)) ggX4_comesTo_X4_bestFor
theorem mx_X7_as_8 : Cond.code yX3_hasSound cX3_hasSound 2 (some .boolean) ∈ wsX7_as := by unfold wsX7_as; exact List.mem_cons_of_mem _ (List.mem_append_left _ (List.mem_append_left _ (List.mem_of_getElem? (i := 7) rfl)))
theorem mx_X7_as_9 : Cond.fieldLink RX3 49 "MillTalk$Level" "soundCount" "I" ∈ wsX7_as := by unfold wsX7_as; exact List.mem_cons_of_mem _ (List.mem_append_left _ (List.mem_append_left _ (List.mem_of_getElem? (i := 8) rfl)))
theorem mb_X7_as_wsX30 {w : Cond} (h : w ∈ wsX30) : w ∈ wsX7_as := by unfold wsX7_as; exact List.mem_cons_of_mem _ (List.mem_append_right _ (h))
theorem ggX7_as_X3_hasSound : GoodIn wsX7_as wsX3_hasSound := goodIn_sub (by unfold wsX3_hasSound; exact List.forall_mem_cons.mpr ⟨mx_X7_as_8, List.forall_mem_append.mpr ⟨List.forall_mem_cons.mpr ⟨mx_X7_as_9, fun _ h_ => absurd h_ List.not_mem_nil⟩, (fun _ h_ => mb_X7_as_wsX30 h_)⟩⟩) (by decide +kernel)
theorem mx_X7_as_4 : Cond.methodLink RX7 173 yX3_hasSound ∈ wsX7_as := by unfold wsX7_as; exact List.mem_cons_of_mem _ (List.mem_append_left _ (List.mem_append_left _ (List.mem_of_getElem? (i := 3) rfl)))
theorem mx_X7_as_5 : Cond.instanceMethod yX3_hasSound ∈ wsX7_as := by unfold wsX7_as; exact List.mem_cons_of_mem _ (List.mem_append_left _ (List.mem_append_left _ (List.mem_of_getElem? (i := 4) rfl)))
theorem mx_X7_as_6 : Cond.selects RX3 yX3_hasSound yX3_hasSound ∈ wsX7_as := by unfold wsX7_as; exact List.mem_cons_of_mem _ (List.mem_append_left _ (List.mem_append_left _ (List.mem_of_getElem? (i := 5) rfl)))
theorem mx_X7_as_7 : Cond.initialized RX3 ∈ wsX7_as := by unfold wsX7_as; exact List.mem_cons_of_mem _ (List.mem_append_left _ (List.mem_append_left _ (List.mem_of_getElem? (i := 6) rfl)))
theorem gX7_as_X3_hasSound : GoodIn wsX7_as (wsV RX7 173 RX3 yX3_hasSound wsX3_hasSound) := goodIn_app (goodIn_sub (List.forall_mem_cons.mpr ⟨mx_X7_as_4, List.forall_mem_cons.mpr ⟨mx_X7_as_5, List.forall_mem_cons.mpr ⟨mx_X7_as_6, List.forall_mem_cons.mpr ⟨mx_X7_as_7, fun _ h_ => absurd h_ List.not_mem_nil⟩⟩⟩⟩) (by decide +kernel)) ggX7_as_X3_hasSound
theorem mx_X7_as_23 : Cond.code yX7_found cX7_found 2 (some .int) ∈ wsX7_as := by unfold wsX7_as; exact List.mem_cons_of_mem _ (List.mem_append_left _ (List.mem_append_left _ (List.mem_of_getElem? (i := 22) rfl)))
theorem mx_X7_as_19 : Cond.fieldLink RX7 323 "MillTalk" "latestFinding" "I" ∈ wsX7_as := by unfold wsX7_as; exact List.mem_cons_of_mem _ (List.mem_append_left _ (List.mem_append_left _ (List.mem_of_getElem? (i := 18) rfl)))
theorem mx_X7_as_24 : Cond.constant RX7 326 (-1000010) ∈ wsX7_as := by unfold wsX7_as; exact List.mem_cons_of_mem _ (List.mem_append_left _ (List.mem_append_left _ (List.mem_of_getElem? (i := 23) rfl)))
theorem mb_X7_as_wsX70 {w : Cond} (h : w ∈ wsX70) : w ∈ wsX7_as := by unfold wsX7_as; exact List.mem_cons_of_mem _ (List.mem_append_left _ (List.mem_append_right _ (h)))
theorem ggX7_as_X7_found : GoodIn wsX7_as wsX7_found := goodIn_sub (by unfold wsX7_found; exact List.forall_mem_cons.mpr ⟨mx_X7_as_23, List.forall_mem_append.mpr ⟨List.forall_mem_cons.mpr ⟨mx_X7_as_19, List.forall_mem_cons.mpr ⟨mx_X7_as_24, fun _ h_ => absurd h_ List.not_mem_nil⟩⟩, (fun _ h_ => mb_X7_as_wsX70 h_)⟩⟩) (by decide +kernel)
theorem mx_X7_as_20 : Cond.methodLink RX7 73 yX7_found ∈ wsX7_as := by unfold wsX7_as; exact List.mem_cons_of_mem _ (List.mem_append_left _ (List.mem_append_left _ (List.mem_of_getElem? (i := 19) rfl)))
theorem mx_X7_as_21 : Cond.instanceMethod yX7_found ∈ wsX7_as := by unfold wsX7_as; exact List.mem_cons_of_mem _ (List.mem_append_left _ (List.mem_append_left _ (List.mem_of_getElem? (i := 20) rfl)))
theorem mx_X7_as_22 : Cond.selects RX7 yX7_found yX7_found ∈ wsX7_as := by unfold wsX7_as; exact List.mem_cons_of_mem _ (List.mem_append_left _ (List.mem_append_left _ (List.mem_of_getElem? (i := 21) rfl)))
theorem mx_X7_as_12 : Cond.initialized RX7 ∈ wsX7_as := by unfold wsX7_as; exact List.mem_cons_of_mem _ (List.mem_append_left _ (List.mem_append_left _ (List.mem_of_getElem? (i := 11) rfl)))
theorem gX7_as_X7_found : GoodIn wsX7_as (wsV RX7 73 RX7 yX7_found wsX7_found) := goodIn_app (goodIn_sub (List.forall_mem_cons.mpr ⟨mx_X7_as_20, List.forall_mem_cons.mpr ⟨mx_X7_as_21, List.forall_mem_cons.mpr ⟨mx_X7_as_22, List.forall_mem_cons.mpr ⟨mx_X7_as_12, fun _ h_ => absurd h_ List.not_mem_nil⟩⟩⟩⟩) (by decide +kernel)) ggX7_as_X7_found
theorem mx_X7_as_18 : Cond.code yX7_foundNothing cX7_foundNothing 2 (some .int) ∈ wsX7_as := by unfold wsX7_as; exact List.mem_cons_of_mem _ (List.mem_append_left _ (List.mem_append_left _ (List.mem_of_getElem? (i := 17) rfl)))
theorem ggX7_as_X7_foundNothing : GoodIn wsX7_as wsX7_foundNothing := goodIn_sub (by unfold wsX7_foundNothing; exact List.forall_mem_cons.mpr ⟨mx_X7_as_18, List.forall_mem_append.mpr ⟨List.forall_mem_cons.mpr ⟨mx_X7_as_19, fun _ h_ => absurd h_ List.not_mem_nil⟩, (fun _ h_ => mb_X7_as_wsX70 h_)⟩⟩) (by decide +kernel)
theorem mx_X7_as_15 : Cond.methodLink RX7 81 yX7_foundNothing ∈ wsX7_as := by unfold wsX7_as; exact List.mem_cons_of_mem _ (List.mem_append_left _ (List.mem_append_left _ (List.mem_of_getElem? (i := 14) rfl)))
theorem mx_X7_as_16 : Cond.instanceMethod yX7_foundNothing ∈ wsX7_as := by unfold wsX7_as; exact List.mem_cons_of_mem _ (List.mem_append_left _ (List.mem_append_left _ (List.mem_of_getElem? (i := 15) rfl)))
theorem mx_X7_as_17 : Cond.selects RX7 yX7_foundNothing yX7_foundNothing ∈ wsX7_as := by unfold wsX7_as; exact List.mem_cons_of_mem _ (List.mem_append_left _ (List.mem_append_left _ (List.mem_of_getElem? (i := 16) rfl)))
theorem gX7_as_X7_foundNothing : GoodIn wsX7_as (wsV RX7 81 RX7 yX7_foundNothing wsX7_foundNothing) := goodIn_app (goodIn_sub (List.forall_mem_cons.mpr ⟨mx_X7_as_15, List.forall_mem_cons.mpr ⟨mx_X7_as_16, List.forall_mem_cons.mpr ⟨mx_X7_as_17, List.forall_mem_cons.mpr ⟨mx_X7_as_12, fun _ h_ => absurd h_ List.not_mem_nil⟩⟩⟩⟩) (by decide +kernel)) ggX7_as_X7_foundNothing
theorem mx_X7_as_13 : Cond.code yX7_isOfKind cX7_isOfKind 4 (some .boolean) ∈ wsX7_as := by unfold wsX7_as; exact List.mem_cons_of_mem _ (List.mem_append_left _ (List.mem_append_left _ (List.mem_of_getElem? (i := 12) rfl)))
theorem mx_X7_as_14 : Cond.fieldLink RX7 327 "MillTalk" "NEXT_KIND" "[I" ∈ wsX7_as := by unfold wsX7_as; exact List.mem_cons_of_mem _ (List.mem_append_left _ (List.mem_append_left _ (List.mem_of_getElem? (i := 13) rfl)))
theorem ggX7_as_X7_isOfKind : GoodIn wsX7_as wsX7_isOfKind := goodIn_sub (by unfold wsX7_isOfKind; exact List.forall_mem_cons.mpr ⟨mx_X7_as_13, List.forall_mem_cons.mpr ⟨mx_X7_as_14, fun _ h_ => absurd h_ List.not_mem_nil⟩⟩) (by decide +kernel)
set_option maxRecDepth 20000 in
theorem gX7_as_X7_isOfKind : GoodIn wsX7_as (va_wsS RX7 304 yX7_isOfKind wsX7_isOfKind) := goodIn_app (goodIn_of _ (by decide +kernel)) ggX7_as_X7_isOfKind
theorem mb_X7_ask_wsX7_ask_r1 {w : Cond} (h : w ∈ wsX7_ask_r1) : w ∈ wsX7_ask := by unfold wsX7_ask; exact List.mem_cons_of_mem _ (List.mem_append_left _ (List.mem_append_left _ (List.mem_append_left _ (List.mem_append_left _ (h)))))
theorem mx_X7_ask_17 : Cond.code yX1_answer cX1_answer 4 (some .int) ∈ wsX7_ask := mb_X7_ask_wsX7_ask_r1 (List.mem_of_getElem? (i := 16) rfl)
theorem mx_X7_ask_18 : Cond.fieldLink RX1 15 "MillTalk$Asks" "traced" "I" ∈ wsX7_ask := mb_X7_ask_wsX7_ask_r1 (List.mem_of_getElem? (i := 17) rfl)
theorem mx_X7_ask_19 : Cond.fieldLink RX1 19 "MillTalk$Asks" "number" "I" ∈ wsX7_ask := mb_X7_ask_wsX7_ask_r1 (List.mem_of_getElem? (i := 18) rfl)
theorem mx_X7_ask_20 : Cond.fieldLink RX1 22 "MillTalk$Level" "kinds" "[I" ∈ wsX7_ask := mb_X7_ask_wsX7_ask_r1 (List.mem_of_getElem? (i := 19) rfl)
theorem mx_X7_ask_21 : Cond.fieldLink RX1 27 "MillTalk$Asks" "kind" "I" ∈ wsX7_ask := mb_X7_ask_wsX7_ask_r1 (List.mem_of_getElem? (i := 20) rfl)
theorem mx_X7_ask_22 : Cond.fieldLink RX1 30 "MillTalk$Level" "places" "[I" ∈ wsX7_ask := mb_X7_ask_wsX7_ask_r1 (List.mem_of_getElem? (i := 21) rfl)
theorem mx_X7_ask_23 : Cond.fieldLink RX1 33 "MillTalk$Asks" "cell" "I" ∈ wsX7_ask := mb_X7_ask_wsX7_ask_r1 (List.mem_of_getElem? (i := 22) rfl)
theorem mx_X7_ask_24 : Cond.fieldLink RX1 36 "MillTalk$Level" "louds" "[I" ∈ wsX7_ask := mb_X7_ask_wsX7_ask_r1 (List.mem_of_getElem? (i := 23) rfl)
theorem mb_X7_ask_wsX7_ask_r2 {w : Cond} (h : w ∈ wsX7_ask_r2) : w ∈ wsX7_ask := by unfold wsX7_ask; exact List.mem_cons_of_mem _ (List.mem_append_left _ (List.mem_append_left _ (List.mem_append_left _ (List.mem_append_right _ (h)))))
theorem mx_X7_ask_25 : Cond.fieldLink RX1 39 "MillTalk$Asks" "loud" "I" ∈ wsX7_ask := mb_X7_ask_wsX7_ask_r2 (List.mem_of_getElem? (i := 0) rfl)
theorem mx_X7_ask_26 : Cond.methodLink RX1 42 yX1_askAnew ∈ wsX7_ask := mb_X7_ask_wsX7_ask_r2 (List.mem_of_getElem? (i := 1) rfl)
theorem mx_X7_ask_27 : Cond.instanceMethod yX1_askAnew ∈ wsX7_ask := mb_X7_ask_wsX7_ask_r2 (List.mem_of_getElem? (i := 2) rfl)
theorem mx_X7_ask_28 : Cond.selects RX1 yX1_askAnew yX1_askAnew ∈ wsX7_ask := mb_X7_ask_wsX7_ask_r2 (List.mem_of_getElem? (i := 3) rfl)
theorem mx_X7_ask_12 : Cond.initialized RX1 ∈ wsX7_ask := mb_X7_ask_wsX7_ask_r1 (List.mem_of_getElem? (i := 11) rfl)
theorem mx_X7_ask_29 : Cond.code yX1_askAnew cX1_askAnew 3 (some .int) ∈ wsX7_ask := mb_X7_ask_wsX7_ask_r2 (List.mem_of_getElem? (i := 4) rfl)
theorem mx_X7_ask_30 : Cond.methodLink RX1 46 yX1_bodyFor ∈ wsX7_ask := mb_X7_ask_wsX7_ask_r2 (List.mem_of_getElem? (i := 5) rfl)
theorem mx_X7_ask_31 : Cond.instanceMethod yX1_bodyFor ∈ wsX7_ask := mb_X7_ask_wsX7_ask_r2 (List.mem_of_getElem? (i := 6) rfl)
theorem mx_X7_ask_32 : Cond.selects RX1 yX1_bodyFor yX1_bodyFor ∈ wsX7_ask := mb_X7_ask_wsX7_ask_r2 (List.mem_of_getElem? (i := 7) rfl)
theorem mx_X7_ask_33 : Cond.code yX1_bodyFor cX1_bodyFor 5 (some .int) ∈ wsX7_ask := mb_X7_ask_wsX7_ask_r2 (List.mem_of_getElem? (i := 8) rfl)
theorem mx_X7_ask_34 : Cond.fieldLink RX1 56 "MillTalk$Asks" "SIZE_BODIES" "[I" ∈ wsX7_ask := mb_X7_ask_wsX7_ask_r2 (List.mem_of_getElem? (i := 9) rfl)
theorem mx_X7_ask_35 : Cond.fieldLink RX1 59 "MillTalk$Asks" "MARK_BODIES" "[I" ∈ wsX7_ask := mb_X7_ask_wsX7_ask_r2 (List.mem_of_getElem? (i := 10) rfl)
theorem mx_X7_ask_36 : Cond.methodLink RX1 50 yX1_begin ∈ wsX7_ask := mb_X7_ask_wsX7_ask_r2 (List.mem_of_getElem? (i := 11) rfl)
theorem mx_X7_ask_37 : Cond.instanceMethod yX1_begin ∈ wsX7_ask := mb_X7_ask_wsX7_ask_r2 (List.mem_of_getElem? (i := 12) rfl)
theorem mx_X7_ask_38 : Cond.selects RX1 yX1_begin yX1_begin ∈ wsX7_ask := mb_X7_ask_wsX7_ask_r2 (List.mem_of_getElem? (i := 13) rfl)
theorem mx_X7_ask_39 : Cond.code yX1_begin cX1_begin 4 (some .int) ∈ wsX7_ask := mb_X7_ask_wsX7_ask_r2 (List.mem_of_getElem? (i := 14) rfl)
theorem mx_X7_ask_40 : Cond.methodLink RX1 62 yX1_leave ∈ wsX7_ask := mb_X7_ask_wsX7_ask_r2 (List.mem_of_getElem? (i := 15) rfl)
theorem mx_X7_ask_41 : Cond.instanceMethod yX1_leave ∈ wsX7_ask := mb_X7_ask_wsX7_ask_r2 (List.mem_of_getElem? (i := 16) rfl)
theorem mx_X7_ask_42 : Cond.selects RX1 yX1_leave yX1_leave ∈ wsX7_ask := mb_X7_ask_wsX7_ask_r2 (List.mem_of_getElem? (i := 17) rfl)
theorem mx_X7_ask_43 : Cond.code yX1_leave cX1_leave 2 none ∈ wsX7_ask := mb_X7_ask_wsX7_ask_r2 (List.mem_of_getElem? (i := 18) rfl)
theorem mx_X7_ask_44 : Cond.fieldLink RX1 11 "MillTalk$Asks" "trace" "[I" ∈ wsX7_ask := mb_X7_ask_wsX7_ask_r2 (List.mem_of_getElem? (i := 19) rfl)
theorem mb_X7_ask_wsX10 {w : Cond} (h : w ∈ wsX10) : w ∈ wsX7_ask := by unfold wsX7_ask; exact List.mem_cons_of_mem _ (List.mem_append_right _ (h))
theorem mb_X7_ask_wsX30 {w : Cond} (h : w ∈ wsX30) : w ∈ wsX7_ask := by unfold wsX7_ask; exact List.mem_cons_of_mem _ (List.mem_append_left _ (List.mem_append_right _ (h)))
theorem ggX7_ask_X1_answer : GoodIn wsX7_ask wsX1_answer := goodIn_sub (by unfold wsX1_answer; exact List.forall_mem_cons.mpr ⟨mx_X7_ask_17, List.forall_mem_append.mpr ⟨List.forall_mem_append.mpr ⟨List.forall_mem_append.mpr ⟨(by unfold wsX1_answer_r1; exact List.forall_mem_cons.mpr ⟨mx_X7_ask_18, List.forall_mem_cons.mpr ⟨mx_X7_ask_19, List.forall_mem_cons.mpr ⟨mx_X7_ask_20, List.forall_mem_cons.mpr ⟨mx_X7_ask_21, List.forall_mem_cons.mpr ⟨mx_X7_ask_22, List.forall_mem_cons.mpr ⟨mx_X7_ask_23, List.forall_mem_cons.mpr ⟨mx_X7_ask_24, List.forall_mem_cons.mpr ⟨mx_X7_ask_25, List.forall_mem_cons.mpr ⟨mx_X7_ask_26, List.forall_mem_cons.mpr ⟨mx_X7_ask_27, List.forall_mem_cons.mpr ⟨mx_X7_ask_28, List.forall_mem_cons.mpr ⟨mx_X7_ask_12, List.forall_mem_cons.mpr ⟨mx_X7_ask_29, List.forall_mem_cons.mpr ⟨mx_X7_ask_30, List.forall_mem_cons.mpr ⟨mx_X7_ask_31, List.forall_mem_cons.mpr ⟨mx_X7_ask_32, List.forall_mem_cons.mpr ⟨mx_X7_ask_33, List.forall_mem_cons.mpr ⟨mx_X7_ask_34, List.forall_mem_cons.mpr ⟨mx_X7_ask_35, List.forall_mem_cons.mpr ⟨mx_X7_ask_36, List.forall_mem_cons.mpr ⟨mx_X7_ask_37, List.forall_mem_cons.mpr ⟨mx_X7_ask_38, List.forall_mem_cons.mpr ⟨mx_X7_ask_39, List.forall_mem_cons.mpr ⟨mx_X7_ask_40, fun _ h_ => absurd h_ List.not_mem_nil⟩⟩⟩⟩⟩⟩⟩⟩⟩⟩⟩⟩⟩⟩⟩⟩⟩⟩⟩⟩⟩⟩⟩⟩), (by unfold wsX1_answer_r2; exact List.forall_mem_cons.mpr ⟨mx_X7_ask_41, List.forall_mem_cons.mpr ⟨mx_X7_ask_42, List.forall_mem_cons.mpr ⟨mx_X7_ask_43, List.forall_mem_cons.mpr ⟨mx_X7_ask_44, fun _ h_ => absurd h_ List.not_mem_nil⟩⟩⟩⟩)⟩, (fun _ h_ => mb_X7_ask_wsX10 h_)⟩, (fun _ h_ => mb_X7_ask_wsX30 h_)⟩⟩) (by decide +kernel)
theorem mx_X7_ask_14 : Cond.methodLink RX7 310 yX1_answer ∈ wsX7_ask := mb_X7_ask_wsX7_ask_r1 (List.mem_of_getElem? (i := 13) rfl)
theorem mx_X7_ask_15 : Cond.instanceMethod yX1_answer ∈ wsX7_ask := mb_X7_ask_wsX7_ask_r1 (List.mem_of_getElem? (i := 14) rfl)
theorem mx_X7_ask_16 : Cond.selects RX1 yX1_answer yX1_answer ∈ wsX7_ask := mb_X7_ask_wsX7_ask_r1 (List.mem_of_getElem? (i := 15) rfl)
theorem gX7_ask_X1_answer : GoodIn wsX7_ask (wsV RX7 310 RX1 yX1_answer wsX1_answer) := goodIn_app (goodIn_sub (List.forall_mem_cons.mpr ⟨mx_X7_ask_14, List.forall_mem_cons.mpr ⟨mx_X7_ask_15, List.forall_mem_cons.mpr ⟨mx_X7_ask_16, List.forall_mem_cons.mpr ⟨mx_X7_ask_12, fun _ h_ => absurd h_ List.not_mem_nil⟩⟩⟩⟩) (by decide +kernel)) ggX7_ask_X1_answer
theorem mx_X7_ask_13 : Cond.code yX1_isAsk cX1_isAsk 1 (some .boolean) ∈ wsX7_ask := mb_X7_ask_wsX7_ask_r1 (List.mem_of_getElem? (i := 12) rfl)
theorem ggX7_ask_X1_isAsk : GoodIn wsX7_ask wsX1_isAsk := goodIn_sub (by unfold wsX1_isAsk; exact List.forall_mem_cons.mpr ⟨mx_X7_ask_13, fun _ h_ => absurd h_ List.not_mem_nil⟩) (by decide +kernel)
set_option maxRecDepth 20000 in
theorem gX7_ask_X1_isAsk : GoodIn wsX7_ask (va_wsS RX7 307 yX1_isAsk wsX1_isAsk) := goodIn_app (goodIn_of _ (by decide +kernel)) ggX7_ask_X1_isAsk
theorem mx_X7_ask_8 : Cond.code yX3_hasSound cX3_hasSound 2 (some .boolean) ∈ wsX7_ask := mb_X7_ask_wsX7_ask_r1 (List.mem_of_getElem? (i := 7) rfl)
theorem mx_X7_ask_9 : Cond.fieldLink RX3 49 "MillTalk$Level" "soundCount" "I" ∈ wsX7_ask := mb_X7_ask_wsX7_ask_r1 (List.mem_of_getElem? (i := 8) rfl)
theorem ggX7_ask_X3_hasSound : GoodIn wsX7_ask wsX3_hasSound := goodIn_sub (by unfold wsX3_hasSound; exact List.forall_mem_cons.mpr ⟨mx_X7_ask_8, List.forall_mem_append.mpr ⟨List.forall_mem_cons.mpr ⟨mx_X7_ask_9, fun _ h_ => absurd h_ List.not_mem_nil⟩, (fun _ h_ => mb_X7_ask_wsX30 h_)⟩⟩) (by decide +kernel)
theorem mx_X7_ask_4 : Cond.methodLink RX7 173 yX3_hasSound ∈ wsX7_ask := mb_X7_ask_wsX7_ask_r1 (List.mem_of_getElem? (i := 3) rfl)
theorem mx_X7_ask_5 : Cond.instanceMethod yX3_hasSound ∈ wsX7_ask := mb_X7_ask_wsX7_ask_r1 (List.mem_of_getElem? (i := 4) rfl)
theorem mx_X7_ask_6 : Cond.selects RX3 yX3_hasSound yX3_hasSound ∈ wsX7_ask := mb_X7_ask_wsX7_ask_r1 (List.mem_of_getElem? (i := 5) rfl)
theorem mx_X7_ask_7 : Cond.initialized RX3 ∈ wsX7_ask := mb_X7_ask_wsX7_ask_r1 (List.mem_of_getElem? (i := 6) rfl)
theorem gX7_ask_X3_hasSound : GoodIn wsX7_ask (wsV RX7 173 RX3 yX3_hasSound wsX3_hasSound) := goodIn_app (goodIn_sub (List.forall_mem_cons.mpr ⟨mx_X7_ask_4, List.forall_mem_cons.mpr ⟨mx_X7_ask_5, List.forall_mem_cons.mpr ⟨mx_X7_ask_6, List.forall_mem_cons.mpr ⟨mx_X7_ask_7, fun _ h_ => absurd h_ List.not_mem_nil⟩⟩⟩⟩) (by decide +kernel)) ggX7_ask_X3_hasSound
theorem mb_X7_byTurns_wsX7_byTurns_r1 {w : Cond} (h : w ∈ wsX7_byTurns_r1) : w ∈ wsX7_byTurns := by unfold wsX7_byTurns; exact List.mem_cons_of_mem _ (List.mem_append_left _ (List.mem_append_left _ (List.mem_append_left _ (List.mem_append_left _ (h)))))
theorem mx_X7_byTurns_9 : Cond.code yX3_isTold cX3_isTold 1 (some .boolean) ∈ wsX7_byTurns := mb_X7_byTurns_wsX7_byTurns_r1 (List.mem_of_getElem? (i := 8) rfl)
theorem mx_X7_byTurns_10 : Cond.fieldLink RX3 27 "MillTalk$Level" "cells" "I" ∈ wsX7_byTurns := mb_X7_byTurns_wsX7_byTurns_r1 (List.mem_of_getElem? (i := 9) rfl)
theorem mb_X7_byTurns_wsX30 {w : Cond} (h : w ∈ wsX30) : w ∈ wsX7_byTurns := by unfold wsX7_byTurns; exact List.mem_cons_of_mem _ (List.mem_append_left _ (List.mem_append_right _ (h)))
theorem ggX7_byTurns_X3_isTold : GoodIn wsX7_byTurns wsX3_isTold := goodIn_sub (by unfold wsX3_isTold; exact List.forall_mem_cons.mpr ⟨mx_X7_byTurns_9, List.forall_mem_append.mpr ⟨List.forall_mem_cons.mpr ⟨mx_X7_byTurns_10, fun _ h_ => absurd h_ List.not_mem_nil⟩, (fun _ h_ => mb_X7_byTurns_wsX30 h_)⟩⟩) (by decide +kernel)
theorem mx_X7_byTurns_5 : Cond.methodLink RX7 145 yX3_isTold ∈ wsX7_byTurns := mb_X7_byTurns_wsX7_byTurns_r1 (List.mem_of_getElem? (i := 4) rfl)
theorem mx_X7_byTurns_6 : Cond.instanceMethod yX3_isTold ∈ wsX7_byTurns := mb_X7_byTurns_wsX7_byTurns_r1 (List.mem_of_getElem? (i := 5) rfl)
theorem mx_X7_byTurns_7 : Cond.selects RX3 yX3_isTold yX3_isTold ∈ wsX7_byTurns := mb_X7_byTurns_wsX7_byTurns_r1 (List.mem_of_getElem? (i := 6) rfl)
theorem mx_X7_byTurns_8 : Cond.initialized RX3 ∈ wsX7_byTurns := mb_X7_byTurns_wsX7_byTurns_r1 (List.mem_of_getElem? (i := 7) rfl)
theorem gX7_byTurns_X3_isTold : GoodIn wsX7_byTurns (wsV RX7 145 RX3 yX3_isTold wsX3_isTold) := goodIn_app (goodIn_sub (List.forall_mem_cons.mpr ⟨mx_X7_byTurns_5, List.forall_mem_cons.mpr ⟨mx_X7_byTurns_6, List.forall_mem_cons.mpr ⟨mx_X7_byTurns_7, List.forall_mem_cons.mpr ⟨mx_X7_byTurns_8, fun _ h_ => absurd h_ List.not_mem_nil⟩⟩⟩⟩) (by decide +kernel)) ggX7_byTurns_X3_isTold
theorem mx_X7_byTurns_15 : Cond.code yX4_comesTo cX4_comesTo 4 (some .int) ∈ wsX7_byTurns := mb_X7_byTurns_wsX7_byTurns_r1 (List.mem_of_getElem? (i := 14) rfl)
theorem mx_X7_byTurns_16 : Cond.fieldLink RX4 10 "MillTalk$Play" "board" "LMillTalk$Level;" ∈ wsX7_byTurns := mb_X7_byTurns_wsX7_byTurns_r1 (List.mem_of_getElem? (i := 15) rfl)
theorem mx_X7_byTurns_17 : Cond.fieldLink RX4 23 "MillTalk$Play" "hours" "I" ∈ wsX7_byTurns := mb_X7_byTurns_wsX7_byTurns_r1 (List.mem_of_getElem? (i := 16) rfl)
theorem mx_X7_byTurns_18 : Cond.methodLink RX4 27 Lib.Math.min.name ∈ wsX7_byTurns := mb_X7_byTurns_wsX7_byTurns_r1 (List.mem_of_getElem? (i := 17) rfl)
theorem mx_X7_byTurns_19 : Cond.static Lib.Math.min.name ∈ wsX7_byTurns := mb_X7_byTurns_wsX7_byTurns_r1 (List.mem_of_getElem? (i := 18) rfl)
theorem mx_X7_byTurns_20 : Cond.initialized "java/lang/Math" ∈ wsX7_byTurns := mb_X7_byTurns_wsX7_byTurns_r1 (List.mem_of_getElem? (i := 19) rfl)
theorem mx_X7_byTurns_21 : Cond.code Lib.Math.min.name Lib.Math.min.code 2 (some .int) ∈ wsX7_byTurns := mb_X7_byTurns_wsX7_byTurns_r1 (List.mem_of_getElem? (i := 20) rfl)
theorem mx_X7_byTurns_22 : Cond.methodLink RX4 19 yX3_becomeLike ∈ wsX7_byTurns := mb_X7_byTurns_wsX7_byTurns_r1 (List.mem_of_getElem? (i := 21) rfl)
theorem mx_X7_byTurns_23 : Cond.instanceMethod yX3_becomeLike ∈ wsX7_byTurns := mb_X7_byTurns_wsX7_byTurns_r1 (List.mem_of_getElem? (i := 22) rfl)
theorem mx_X7_byTurns_24 : Cond.selects RX3 yX3_becomeLike yX3_becomeLike ∈ wsX7_byTurns := mb_X7_byTurns_wsX7_byTurns_r1 (List.mem_of_getElem? (i := 23) rfl)
theorem mb_X7_byTurns_wsX7_byTurns_r2 {w : Cond} (h : w ∈ wsX7_byTurns_r2) : w ∈ wsX7_byTurns := by unfold wsX7_byTurns; exact List.mem_cons_of_mem _ (List.mem_append_left _ (List.mem_append_left _ (List.mem_append_left _ (List.mem_append_right _ (List.mem_append_left _ (h))))))
theorem mx_X7_byTurns_25 : Cond.code yX3_becomeLike cX3_becomeLike 2 none ∈ wsX7_byTurns := mb_X7_byTurns_wsX7_byTurns_r2 (List.mem_of_getElem? (i := 0) rfl)
theorem mx_X7_byTurns_26 : Cond.fieldLink RX3 31 "MillTalk$Level" "mill" "I" ∈ wsX7_byTurns := mb_X7_byTurns_wsX7_byTurns_r2 (List.mem_of_getElem? (i := 1) rfl)
theorem mx_X7_byTurns_27 : Cond.fieldLink RX3 34 "MillTalk$Level" "reach" "I" ∈ wsX7_byTurns := mb_X7_byTurns_wsX7_byTurns_r2 (List.mem_of_getElem? (i := 2) rfl)
theorem mx_X7_byTurns_28 : Cond.fieldLink RX3 37 "MillTalk$Level" "cap" "I" ∈ wsX7_byTurns := mb_X7_byTurns_wsX7_byTurns_r2 (List.mem_of_getElem? (i := 3) rfl)
theorem mx_X7_byTurns_29 : Cond.fieldLink RX3 40 "MillTalk$Level" "hour" "I" ∈ wsX7_byTurns := mb_X7_byTurns_wsX7_byTurns_r2 (List.mem_of_getElem? (i := 4) rfl)
theorem mx_X7_byTurns_30 : Cond.fieldLink RX3 43 "MillTalk$Level" "meal" "I" ∈ wsX7_byTurns := mb_X7_byTurns_wsX7_byTurns_r2 (List.mem_of_getElem? (i := 5) rfl)
theorem mx_X7_byTurns_31 : Cond.fieldLink RX3 46 "MillTalk$Level" "windCount" "I" ∈ wsX7_byTurns := mb_X7_byTurns_wsX7_byTurns_r2 (List.mem_of_getElem? (i := 6) rfl)
theorem mx_X7_byTurns_32 : Cond.fieldLink RX3 49 "MillTalk$Level" "soundCount" "I" ∈ wsX7_byTurns := mb_X7_byTurns_wsX7_byTurns_r2 (List.mem_of_getElem? (i := 7) rfl)
theorem mx_X7_byTurns_33 : Cond.fieldLink RX3 9 "MillTalk$Level" "winds" "[I" ∈ wsX7_byTurns := mb_X7_byTurns_wsX7_byTurns_r2 (List.mem_of_getElem? (i := 8) rfl)
theorem mx_X7_byTurns_34 : Cond.methodLink RX3 52 arraycopyName ∈ wsX7_byTurns := mb_X7_byTurns_wsX7_byTurns_r2 (List.mem_of_getElem? (i := 9) rfl)
theorem mx_X7_byTurns_35 : Cond.native arraycopyName ∈ wsX7_byTurns := mb_X7_byTurns_wsX7_byTurns_r2 (List.mem_of_getElem? (i := 10) rfl)
theorem mx_X7_byTurns_36 : Cond.static arraycopyName ∈ wsX7_byTurns := mb_X7_byTurns_wsX7_byTurns_r2 (List.mem_of_getElem? (i := 11) rfl)
theorem mx_X7_byTurns_37 : Cond.initialized "java/lang/System" ∈ wsX7_byTurns := mb_X7_byTurns_wsX7_byTurns_r2 (List.mem_of_getElem? (i := 12) rfl)
theorem mx_X7_byTurns_38 : Cond.fieldLink RX3 15 "MillTalk$Level" "kinds" "[I" ∈ wsX7_byTurns := mb_X7_byTurns_wsX7_byTurns_r2 (List.mem_of_getElem? (i := 13) rfl)
theorem mx_X7_byTurns_39 : Cond.fieldLink RX3 18 "MillTalk$Level" "places" "[I" ∈ wsX7_byTurns := mb_X7_byTurns_wsX7_byTurns_r2 (List.mem_of_getElem? (i := 14) rfl)
theorem mx_X7_byTurns_40 : Cond.fieldLink RX3 21 "MillTalk$Level" "louds" "[I" ∈ wsX7_byTurns := mb_X7_byTurns_wsX7_byTurns_r2 (List.mem_of_getElem? (i := 15) rfl)
theorem mx_X7_byTurns_41 : Cond.fieldLink RX3 24 "MillTalk$Level" "hows" "[I" ∈ wsX7_byTurns := mb_X7_byTurns_wsX7_byTurns_r2 (List.mem_of_getElem? (i := 16) rfl)
theorem mx_X7_byTurns_42 : Cond.methodLink RX4 33 yX4_bestFor ∈ wsX7_byTurns := mb_X7_byTurns_wsX7_byTurns_r2 (List.mem_of_getElem? (i := 17) rfl)
theorem mx_X7_byTurns_43 : Cond.instanceMethod yX4_bestFor ∈ wsX7_byTurns := mb_X7_byTurns_wsX7_byTurns_r2 (List.mem_of_getElem? (i := 18) rfl)
theorem mx_X7_byTurns_44 : Cond.selects RX4 yX4_bestFor yX4_bestFor ∈ wsX7_byTurns := mb_X7_byTurns_wsX7_byTurns_r2 (List.mem_of_getElem? (i := 19) rfl)
theorem mx_X7_byTurns_14 : Cond.initialized RX4 ∈ wsX7_byTurns := mb_X7_byTurns_wsX7_byTurns_r1 (List.mem_of_getElem? (i := 13) rfl)
theorem mx_X7_byTurns_45 : Cond.code yX4_bestFor cX4_bestFor 5 (some .int) ∈ wsX7_byTurns := mb_X7_byTurns_wsX7_byTurns_r2 (List.mem_of_getElem? (i := 20) rfl)
theorem mx_X7_byTurns_46 : Cond.fieldLink RX4 16 "MillTalk$Play" "outcome" "LMillTalk$Level;" ∈ wsX7_byTurns := mb_X7_byTurns_wsX7_byTurns_r2 (List.mem_of_getElem? (i := 21) rfl)
theorem mx_X7_byTurns_47 : Cond.methodLink RX4 45 Lib.Math.max.name ∈ wsX7_byTurns := mb_X7_byTurns_wsX7_byTurns_r2 (List.mem_of_getElem? (i := 22) rfl)
theorem mx_X7_byTurns_48 : Cond.static Lib.Math.max.name ∈ wsX7_byTurns := mb_X7_byTurns_wsX7_byTurns_r2 (List.mem_of_getElem? (i := 23) rfl)
theorem mb_X7_byTurns_wsX7_byTurns_r3 {w : Cond} (h : w ∈ wsX7_byTurns_r3) : w ∈ wsX7_byTurns := by unfold wsX7_byTurns; exact List.mem_cons_of_mem _ (List.mem_append_left _ (List.mem_append_left _ (List.mem_append_left _ (List.mem_append_right _ (List.mem_append_right _ (List.mem_append_left _ (h)))))))
theorem mx_X7_byTurns_49 : Cond.code Lib.Math.max.name Lib.Math.max.code 2 (some .int) ∈ wsX7_byTurns := mb_X7_byTurns_wsX7_byTurns_r3 (List.mem_of_getElem? (i := 0) rfl)
theorem mx_X7_byTurns_50 : Cond.methodLink RX4 37 yX3_mealBehind ∈ wsX7_byTurns := mb_X7_byTurns_wsX7_byTurns_r3 (List.mem_of_getElem? (i := 1) rfl)
theorem mx_X7_byTurns_51 : Cond.instanceMethod yX3_mealBehind ∈ wsX7_byTurns := mb_X7_byTurns_wsX7_byTurns_r3 (List.mem_of_getElem? (i := 2) rfl)
theorem mx_X7_byTurns_52 : Cond.selects RX3 yX3_mealBehind yX3_mealBehind ∈ wsX7_byTurns := mb_X7_byTurns_wsX7_byTurns_r3 (List.mem_of_getElem? (i := 3) rfl)
theorem mx_X7_byTurns_53 : Cond.code yX3_mealBehind cX3_mealBehind 3 (some .int) ∈ wsX7_byTurns := mb_X7_byTurns_wsX7_byTurns_r3 (List.mem_of_getElem? (i := 4) rfl)
theorem mx_X7_byTurns_54 : Cond.methodLink RX3 94 yX3_pass ∈ wsX7_byTurns := mb_X7_byTurns_wsX7_byTurns_r3 (List.mem_of_getElem? (i := 5) rfl)
theorem mx_X7_byTurns_55 : Cond.instanceMethod yX3_pass ∈ wsX7_byTurns := mb_X7_byTurns_wsX7_byTurns_r3 (List.mem_of_getElem? (i := 6) rfl)
theorem mx_X7_byTurns_56 : Cond.selects RX3 yX3_pass yX3_pass ∈ wsX7_byTurns := mb_X7_byTurns_wsX7_byTurns_r3 (List.mem_of_getElem? (i := 7) rfl)
theorem mx_X7_byTurns_57 : Cond.code yX3_pass cX3_pass 3 none ∈ wsX7_byTurns := mb_X7_byTurns_wsX7_byTurns_r3 (List.mem_of_getElem? (i := 8) rfl)
theorem mx_X7_byTurns_58 : Cond.methodLink RX3 87 yX3_windOn ∈ wsX7_byTurns := mb_X7_byTurns_wsX7_byTurns_r3 (List.mem_of_getElem? (i := 9) rfl)
theorem mx_X7_byTurns_59 : Cond.instanceMethod yX3_windOn ∈ wsX7_byTurns := mb_X7_byTurns_wsX7_byTurns_r3 (List.mem_of_getElem? (i := 10) rfl)
theorem mx_X7_byTurns_60 : Cond.selects RX3 yX3_windOn yX3_windOn ∈ wsX7_byTurns := mb_X7_byTurns_wsX7_byTurns_r3 (List.mem_of_getElem? (i := 11) rfl)
theorem mx_X7_byTurns_61 : Cond.code yX3_windOn cX3_windOn 2 (some .int) ∈ wsX7_byTurns := mb_X7_byTurns_wsX7_byTurns_r3 (List.mem_of_getElem? (i := 12) rfl)
theorem mx_X7_byTurns_62 : Cond.methodLink RX3 90 yX3_passSound ∈ wsX7_byTurns := mb_X7_byTurns_wsX7_byTurns_r3 (List.mem_of_getElem? (i := 13) rfl)
theorem mx_X7_byTurns_63 : Cond.instanceMethod yX3_passSound ∈ wsX7_byTurns := mb_X7_byTurns_wsX7_byTurns_r3 (List.mem_of_getElem? (i := 14) rfl)
theorem mx_X7_byTurns_64 : Cond.selects RX3 yX3_passSound yX3_passSound ∈ wsX7_byTurns := mb_X7_byTurns_wsX7_byTurns_r3 (List.mem_of_getElem? (i := 15) rfl)
theorem mx_X7_byTurns_65 : Cond.code yX3_passSound cX3_passSound 5 none ∈ wsX7_byTurns := mb_X7_byTurns_wsX7_byTurns_r3 (List.mem_of_getElem? (i := 16) rfl)
theorem mx_X7_byTurns_66 : Cond.methodLink RX3 63 Lib.Math.min.name ∈ wsX7_byTurns := mb_X7_byTurns_wsX7_byTurns_r3 (List.mem_of_getElem? (i := 17) rfl)
theorem mx_X7_byTurns_67 : Cond.methodLink RX3 58 yX3_isLoose ∈ wsX7_byTurns := mb_X7_byTurns_wsX7_byTurns_r3 (List.mem_of_getElem? (i := 18) rfl)
theorem mx_X7_byTurns_68 : Cond.instanceMethod yX3_isLoose ∈ wsX7_byTurns := mb_X7_byTurns_wsX7_byTurns_r3 (List.mem_of_getElem? (i := 19) rfl)
theorem mx_X7_byTurns_69 : Cond.selects RX3 yX3_isLoose yX3_isLoose ∈ wsX7_byTurns := mb_X7_byTurns_wsX7_byTurns_r3 (List.mem_of_getElem? (i := 20) rfl)
theorem mx_X7_byTurns_70 : Cond.code yX3_isLoose cX3_isLoose 2 (some .boolean) ∈ wsX7_byTurns := mb_X7_byTurns_wsX7_byTurns_r3 (List.mem_of_getElem? (i := 21) rfl)
theorem mx_X7_byTurns_71 : Cond.methodLink RX3 69 yX3_driftOf ∈ wsX7_byTurns := mb_X7_byTurns_wsX7_byTurns_r3 (List.mem_of_getElem? (i := 22) rfl)
theorem mx_X7_byTurns_72 : Cond.instanceMethod yX3_driftOf ∈ wsX7_byTurns := mb_X7_byTurns_wsX7_byTurns_r3 (List.mem_of_getElem? (i := 23) rfl)
theorem mb_X7_byTurns_wsX7_byTurns_r4 {w : Cond} (h : w ∈ wsX7_byTurns_r4) : w ∈ wsX7_byTurns := by unfold wsX7_byTurns; exact List.mem_cons_of_mem _ (List.mem_append_left _ (List.mem_append_left _ (List.mem_append_left _ (List.mem_append_right _ (List.mem_append_right _ (List.mem_append_right _ (List.mem_append_left _ (h))))))))
theorem mx_X7_byTurns_73 : Cond.selects RX3 yX3_driftOf yX3_driftOf ∈ wsX7_byTurns := mb_X7_byTurns_wsX7_byTurns_r4 (List.mem_of_getElem? (i := 0) rfl)
theorem mx_X7_byTurns_74 : Cond.code yX3_driftOf cX3_driftOf 4 (some .int) ∈ wsX7_byTurns := mb_X7_byTurns_wsX7_byTurns_r4 (List.mem_of_getElem? (i := 1) rfl)
theorem mx_X7_byTurns_75 : Cond.methodLink RX3 72 yX3_loudBehindHour ∈ wsX7_byTurns := mb_X7_byTurns_wsX7_byTurns_r4 (List.mem_of_getElem? (i := 2) rfl)
theorem mx_X7_byTurns_76 : Cond.instanceMethod yX3_loudBehindHour ∈ wsX7_byTurns := mb_X7_byTurns_wsX7_byTurns_r4 (List.mem_of_getElem? (i := 3) rfl)
theorem mx_X7_byTurns_77 : Cond.selects RX3 yX3_loudBehindHour yX3_loudBehindHour ∈ wsX7_byTurns := mb_X7_byTurns_wsX7_byTurns_r4 (List.mem_of_getElem? (i := 4) rfl)
theorem mx_X7_byTurns_78 : Cond.code yX3_loudBehindHour cX3_loudBehindHour 2 (some .int) ∈ wsX7_byTurns := mb_X7_byTurns_wsX7_byTurns_r4 (List.mem_of_getElem? (i := 5) rfl)
theorem mx_X7_byTurns_79 : Cond.methodLink RX3 76 yX3_hasCell ∈ wsX7_byTurns := mb_X7_byTurns_wsX7_byTurns_r4 (List.mem_of_getElem? (i := 6) rfl)
theorem mx_X7_byTurns_80 : Cond.instanceMethod yX3_hasCell ∈ wsX7_byTurns := mb_X7_byTurns_wsX7_byTurns_r4 (List.mem_of_getElem? (i := 7) rfl)
theorem mx_X7_byTurns_81 : Cond.selects RX3 yX3_hasCell yX3_hasCell ∈ wsX7_byTurns := mb_X7_byTurns_wsX7_byTurns_r4 (List.mem_of_getElem? (i := 8) rfl)
theorem mx_X7_byTurns_82 : Cond.code yX3_hasCell cX3_hasCell 2 (some .boolean) ∈ wsX7_byTurns := mb_X7_byTurns_wsX7_byTurns_r4 (List.mem_of_getElem? (i := 9) rfl)
theorem mx_X7_byTurns_83 : Cond.methodLink RX3 79 yX3_letLoose ∈ wsX7_byTurns := mb_X7_byTurns_wsX7_byTurns_r4 (List.mem_of_getElem? (i := 10) rfl)
theorem mx_X7_byTurns_84 : Cond.instanceMethod yX3_letLoose ∈ wsX7_byTurns := mb_X7_byTurns_wsX7_byTurns_r4 (List.mem_of_getElem? (i := 11) rfl)
theorem mx_X7_byTurns_85 : Cond.selects RX3 yX3_letLoose yX3_letLoose ∈ wsX7_byTurns := mb_X7_byTurns_wsX7_byTurns_r4 (List.mem_of_getElem? (i := 12) rfl)
theorem mx_X7_byTurns_86 : Cond.code yX3_letLoose cX3_letLoose 4 none ∈ wsX7_byTurns := mb_X7_byTurns_wsX7_byTurns_r4 (List.mem_of_getElem? (i := 13) rfl)
theorem mx_X7_byTurns_87 : Cond.methodLink RX3 83 yX3_grindsAt ∈ wsX7_byTurns := mb_X7_byTurns_wsX7_byTurns_r4 (List.mem_of_getElem? (i := 14) rfl)
theorem mx_X7_byTurns_88 : Cond.instanceMethod yX3_grindsAt ∈ wsX7_byTurns := mb_X7_byTurns_wsX7_byTurns_r4 (List.mem_of_getElem? (i := 15) rfl)
theorem mx_X7_byTurns_89 : Cond.selects RX3 yX3_grindsAt yX3_grindsAt ∈ wsX7_byTurns := mb_X7_byTurns_wsX7_byTurns_r4 (List.mem_of_getElem? (i := 16) rfl)
theorem mx_X7_byTurns_90 : Cond.code yX3_grindsAt cX3_grindsAt 4 (some .boolean) ∈ wsX7_byTurns := mb_X7_byTurns_wsX7_byTurns_r4 (List.mem_of_getElem? (i := 17) rfl)
theorem mx_X7_byTurns_91 : Cond.methodLink RX4 41 yX4_turn ∈ wsX7_byTurns := mb_X7_byTurns_wsX7_byTurns_r4 (List.mem_of_getElem? (i := 18) rfl)
theorem mx_X7_byTurns_92 : Cond.instanceMethod yX4_turn ∈ wsX7_byTurns := mb_X7_byTurns_wsX7_byTurns_r4 (List.mem_of_getElem? (i := 19) rfl)
theorem mx_X7_byTurns_93 : Cond.selects RX4 yX4_turn yX4_turn ∈ wsX7_byTurns := mb_X7_byTurns_wsX7_byTurns_r4 (List.mem_of_getElem? (i := 20) rfl)
theorem mx_X7_byTurns_94 : Cond.code yX4_turn cX4_turn 2 none ∈ wsX7_byTurns := mb_X7_byTurns_wsX7_byTurns_r4 (List.mem_of_getElem? (i := 21) rfl)
theorem mx_X7_byTurns_95 : Cond.methodLink RX4 48 yX3_turnCap ∈ wsX7_byTurns := mb_X7_byTurns_wsX7_byTurns_r4 (List.mem_of_getElem? (i := 22) rfl)
theorem mx_X7_byTurns_96 : Cond.instanceMethod yX3_turnCap ∈ wsX7_byTurns := mb_X7_byTurns_wsX7_byTurns_r4 (List.mem_of_getElem? (i := 23) rfl)
theorem mb_X7_byTurns_wsX7_byTurns_r5 {w : Cond} (h : w ∈ wsX7_byTurns_r5) : w ∈ wsX7_byTurns := by unfold wsX7_byTurns; exact List.mem_cons_of_mem _ (List.mem_append_left _ (List.mem_append_left _ (List.mem_append_left _ (List.mem_append_right _ (List.mem_append_right _ (List.mem_append_right _ (List.mem_append_right _ (h))))))))
theorem mx_X7_byTurns_97 : Cond.selects RX3 yX3_turnCap yX3_turnCap ∈ wsX7_byTurns := mb_X7_byTurns_wsX7_byTurns_r5 (List.mem_of_getElem? (i := 0) rfl)
theorem mx_X7_byTurns_98 : Cond.code yX3_turnCap cX3_turnCap 1 none ∈ wsX7_byTurns := mb_X7_byTurns_wsX7_byTurns_r5 (List.mem_of_getElem? (i := 1) rfl)
theorem mx_X7_byTurns_99 : Cond.methodLink RX4 51 yX3_turnWind ∈ wsX7_byTurns := mb_X7_byTurns_wsX7_byTurns_r5 (List.mem_of_getElem? (i := 2) rfl)
theorem mx_X7_byTurns_100 : Cond.instanceMethod yX3_turnWind ∈ wsX7_byTurns := mb_X7_byTurns_wsX7_byTurns_r5 (List.mem_of_getElem? (i := 3) rfl)
theorem mx_X7_byTurns_101 : Cond.selects RX3 yX3_turnWind yX3_turnWind ∈ wsX7_byTurns := mb_X7_byTurns_wsX7_byTurns_r5 (List.mem_of_getElem? (i := 4) rfl)
theorem mx_X7_byTurns_102 : Cond.code yX3_turnWind cX3_turnWind 2 none ∈ wsX7_byTurns := mb_X7_byTurns_wsX7_byTurns_r5 (List.mem_of_getElem? (i := 5) rfl)
theorem mb_X7_byTurns_wsX40 {w : Cond} (h : w ∈ wsX40) : w ∈ wsX7_byTurns := by unfold wsX7_byTurns; exact List.mem_cons_of_mem _ (List.mem_append_right _ (h))
theorem ggX7_byTurns_X4_comesTo : GoodIn wsX7_byTurns wsX4_comesTo := goodIn_sub (by unfold wsX4_comesTo; exact List.forall_mem_cons.mpr ⟨mx_X7_byTurns_15, List.forall_mem_append.mpr ⟨List.forall_mem_append.mpr ⟨List.forall_mem_append.mpr ⟨(by unfold wsX4_comesTo_r1; exact List.forall_mem_cons.mpr ⟨mx_X7_byTurns_16, List.forall_mem_cons.mpr ⟨mx_X7_byTurns_17, List.forall_mem_cons.mpr ⟨mx_X7_byTurns_18, List.forall_mem_cons.mpr ⟨mx_X7_byTurns_19, List.forall_mem_cons.mpr ⟨mx_X7_byTurns_20, List.forall_mem_cons.mpr ⟨mx_X7_byTurns_21, List.forall_mem_cons.mpr ⟨mx_X7_byTurns_22, List.forall_mem_cons.mpr ⟨mx_X7_byTurns_23, List.forall_mem_cons.mpr ⟨mx_X7_byTurns_24, List.forall_mem_cons.mpr ⟨mx_X7_byTurns_8, List.forall_mem_cons.mpr ⟨mx_X7_byTurns_25, List.forall_mem_cons.mpr ⟨mx_X7_byTurns_10, List.forall_mem_cons.mpr ⟨mx_X7_byTurns_26, List.forall_mem_cons.mpr ⟨mx_X7_byTurns_27, List.forall_mem_cons.mpr ⟨mx_X7_byTurns_28, List.forall_mem_cons.mpr ⟨mx_X7_byTurns_29, List.forall_mem_cons.mpr ⟨mx_X7_byTurns_30, List.forall_mem_cons.mpr ⟨mx_X7_byTurns_31, List.forall_mem_cons.mpr ⟨mx_X7_byTurns_32, List.forall_mem_cons.mpr ⟨mx_X7_byTurns_33, List.forall_mem_cons.mpr ⟨mx_X7_byTurns_34, List.forall_mem_cons.mpr ⟨mx_X7_byTurns_35, List.forall_mem_cons.mpr ⟨mx_X7_byTurns_36, List.forall_mem_cons.mpr ⟨mx_X7_byTurns_37, fun _ h_ => absurd h_ List.not_mem_nil⟩⟩⟩⟩⟩⟩⟩⟩⟩⟩⟩⟩⟩⟩⟩⟩⟩⟩⟩⟩⟩⟩⟩⟩), List.forall_mem_append.mpr ⟨(by unfold wsX4_comesTo_r2; exact List.forall_mem_cons.mpr ⟨mx_X7_byTurns_38, List.forall_mem_cons.mpr ⟨mx_X7_byTurns_39, List.forall_mem_cons.mpr ⟨mx_X7_byTurns_40, List.forall_mem_cons.mpr ⟨mx_X7_byTurns_41, List.forall_mem_cons.mpr ⟨mx_X7_byTurns_42, List.forall_mem_cons.mpr ⟨mx_X7_byTurns_43, List.forall_mem_cons.mpr ⟨mx_X7_byTurns_44, List.forall_mem_cons.mpr ⟨mx_X7_byTurns_14, List.forall_mem_cons.mpr ⟨mx_X7_byTurns_45, List.forall_mem_cons.mpr ⟨mx_X7_byTurns_46, List.forall_mem_cons.mpr ⟨mx_X7_byTurns_47, List.forall_mem_cons.mpr ⟨mx_X7_byTurns_48, List.forall_mem_cons.mpr ⟨mx_X7_byTurns_49, List.forall_mem_cons.mpr ⟨mx_X7_byTurns_50, List.forall_mem_cons.mpr ⟨mx_X7_byTurns_51, List.forall_mem_cons.mpr ⟨mx_X7_byTurns_52, List.forall_mem_cons.mpr ⟨mx_X7_byTurns_53, List.forall_mem_cons.mpr ⟨mx_X7_byTurns_54, List.forall_mem_cons.mpr ⟨mx_X7_byTurns_55, List.forall_mem_cons.mpr ⟨mx_X7_byTurns_56, List.forall_mem_cons.mpr ⟨mx_X7_byTurns_57, List.forall_mem_cons.mpr ⟨mx_X7_byTurns_58, List.forall_mem_cons.mpr ⟨mx_X7_byTurns_59, List.forall_mem_cons.mpr ⟨mx_X7_byTurns_60, fun _ h_ => absurd h_ List.not_mem_nil⟩⟩⟩⟩⟩⟩⟩⟩⟩⟩⟩⟩⟩⟩⟩⟩⟩⟩⟩⟩⟩⟩⟩⟩), List.forall_mem_append.mpr ⟨(by unfold wsX4_comesTo_r3; exact List.forall_mem_cons.mpr ⟨mx_X7_byTurns_61, List.forall_mem_cons.mpr ⟨mx_X7_byTurns_62, List.forall_mem_cons.mpr ⟨mx_X7_byTurns_63, List.forall_mem_cons.mpr ⟨mx_X7_byTurns_64, List.forall_mem_cons.mpr ⟨mx_X7_byTurns_65, List.forall_mem_cons.mpr ⟨mx_X7_byTurns_66, List.forall_mem_cons.mpr ⟨mx_X7_byTurns_67, List.forall_mem_cons.mpr ⟨mx_X7_byTurns_68, List.forall_mem_cons.mpr ⟨mx_X7_byTurns_69, List.forall_mem_cons.mpr ⟨mx_X7_byTurns_70, List.forall_mem_cons.mpr ⟨mx_X7_byTurns_71, List.forall_mem_cons.mpr ⟨mx_X7_byTurns_72, List.forall_mem_cons.mpr ⟨mx_X7_byTurns_73, List.forall_mem_cons.mpr ⟨mx_X7_byTurns_74, List.forall_mem_cons.mpr ⟨mx_X7_byTurns_75, List.forall_mem_cons.mpr ⟨mx_X7_byTurns_76, List.forall_mem_cons.mpr ⟨mx_X7_byTurns_77, List.forall_mem_cons.mpr ⟨mx_X7_byTurns_78, List.forall_mem_cons.mpr ⟨mx_X7_byTurns_79, List.forall_mem_cons.mpr ⟨mx_X7_byTurns_80, List.forall_mem_cons.mpr ⟨mx_X7_byTurns_81, List.forall_mem_cons.mpr ⟨mx_X7_byTurns_82, List.forall_mem_cons.mpr ⟨mx_X7_byTurns_83, List.forall_mem_cons.mpr ⟨mx_X7_byTurns_84, fun _ h_ => absurd h_ List.not_mem_nil⟩⟩⟩⟩⟩⟩⟩⟩⟩⟩⟩⟩⟩⟩⟩⟩⟩⟩⟩⟩⟩⟩⟩⟩), (by unfold wsX4_comesTo_r4; exact List.forall_mem_cons.mpr ⟨mx_X7_byTurns_85, List.forall_mem_cons.mpr ⟨mx_X7_byTurns_86, List.forall_mem_cons.mpr ⟨mx_X7_byTurns_87, List.forall_mem_cons.mpr ⟨mx_X7_byTurns_88, List.forall_mem_cons.mpr ⟨mx_X7_byTurns_89, List.forall_mem_cons.mpr ⟨mx_X7_byTurns_90, List.forall_mem_cons.mpr ⟨mx_X7_byTurns_91, List.forall_mem_cons.mpr ⟨mx_X7_byTurns_92, List.forall_mem_cons.mpr ⟨mx_X7_byTurns_93, List.forall_mem_cons.mpr ⟨mx_X7_byTurns_94, List.forall_mem_cons.mpr ⟨mx_X7_byTurns_95, List.forall_mem_cons.mpr ⟨mx_X7_byTurns_96, List.forall_mem_cons.mpr ⟨mx_X7_byTurns_97, List.forall_mem_cons.mpr ⟨mx_X7_byTurns_98, List.forall_mem_cons.mpr ⟨mx_X7_byTurns_99, List.forall_mem_cons.mpr ⟨mx_X7_byTurns_100, List.forall_mem_cons.mpr ⟨mx_X7_byTurns_101, List.forall_mem_cons.mpr ⟨mx_X7_byTurns_102, fun _ h_ => absurd h_ List.not_mem_nil⟩⟩⟩⟩⟩⟩⟩⟩⟩⟩⟩⟩⟩⟩⟩⟩⟩⟩)⟩⟩⟩, (fun _ h_ => mb_X7_byTurns_wsX40 h_)⟩, (fun _ h_ => mb_X7_byTurns_wsX30 h_)⟩⟩) (by decide +kernel)
theorem mx_X7_byTurns_11 : Cond.methodLink RX7 243 yX4_comesTo ∈ wsX7_byTurns := mb_X7_byTurns_wsX7_byTurns_r1 (List.mem_of_getElem? (i := 10) rfl)
theorem mx_X7_byTurns_12 : Cond.instanceMethod yX4_comesTo ∈ wsX7_byTurns := mb_X7_byTurns_wsX7_byTurns_r1 (List.mem_of_getElem? (i := 11) rfl)
theorem mx_X7_byTurns_13 : Cond.selects RX4 yX4_comesTo yX4_comesTo ∈ wsX7_byTurns := mb_X7_byTurns_wsX7_byTurns_r1 (List.mem_of_getElem? (i := 12) rfl)
theorem gX7_byTurns_X4_comesTo : GoodIn wsX7_byTurns (wsV RX7 243 RX4 yX4_comesTo wsX4_comesTo) := goodIn_app (goodIn_sub (List.forall_mem_cons.mpr ⟨mx_X7_byTurns_11, List.forall_mem_cons.mpr ⟨mx_X7_byTurns_12, List.forall_mem_cons.mpr ⟨mx_X7_byTurns_13, List.forall_mem_cons.mpr ⟨mx_X7_byTurns_14, fun _ h_ => absurd h_ List.not_mem_nil⟩⟩⟩⟩) (by decide +kernel)) ggX7_byTurns_X4_comesTo
theorem mb_X7_caps_wsX7_caps_r5 {w : Cond} (h : w ∈ wsX7_caps_r5) : w ∈ wsX7_caps := by unfold wsX7_caps; exact List.mem_cons_of_mem _ (List.mem_append_left _ (List.mem_append_left _ (List.mem_append_left _ (List.mem_append_right _ (List.mem_append_right _ (List.mem_append_right _ (List.mem_append_right _ (h))))))))
theorem mx_X7_caps_109 : Cond.code yX2_bestCap cX2_bestCap 2 (some .int) ∈ wsX7_caps := mb_X7_caps_wsX7_caps_r5 (List.mem_of_getElem? (i := 12) rfl)
theorem mb_X7_caps_wsX7_caps_r1 {w : Cond} (h : w ∈ wsX7_caps_r1) : w ∈ wsX7_caps := by unfold wsX7_caps; exact List.mem_cons_of_mem _ (List.mem_append_left _ (List.mem_append_left _ (List.mem_append_left _ (List.mem_append_left _ (h)))))
theorem mx_X7_caps_24 : Cond.fieldLink RX2 25 "MillTalk$CapSearch" "bestRow" "I" ∈ wsX7_caps := mb_X7_caps_wsX7_caps_r1 (List.mem_of_getElem? (i := 23) rfl)
theorem mx_X7_caps_22 : Cond.fieldLink RX2 18 "MillTalk$CapSearch" "hours" "I" ∈ wsX7_caps := mb_X7_caps_wsX7_caps_r1 (List.mem_of_getElem? (i := 21) rfl)
theorem mb_X7_caps_wsX20 {w : Cond} (h : w ∈ wsX20) : w ∈ wsX7_caps := by unfold wsX7_caps; exact List.mem_cons_of_mem _ (List.mem_append_left _ (List.mem_append_right _ (h)))
theorem ggX7_caps_X2_bestCap : GoodIn wsX7_caps wsX2_bestCap := goodIn_sub (by unfold wsX2_bestCap; exact List.forall_mem_cons.mpr ⟨mx_X7_caps_109, List.forall_mem_append.mpr ⟨List.forall_mem_cons.mpr ⟨mx_X7_caps_24, List.forall_mem_cons.mpr ⟨mx_X7_caps_22, fun _ h_ => absurd h_ List.not_mem_nil⟩⟩, (fun _ h_ => mb_X7_caps_wsX20 h_)⟩⟩) (by decide +kernel)
theorem mx_X7_caps_106 : Cond.methodLink RX7 234 yX2_bestCap ∈ wsX7_caps := mb_X7_caps_wsX7_caps_r5 (List.mem_of_getElem? (i := 9) rfl)
theorem mx_X7_caps_107 : Cond.instanceMethod yX2_bestCap ∈ wsX7_caps := mb_X7_caps_wsX7_caps_r5 (List.mem_of_getElem? (i := 10) rfl)
theorem mx_X7_caps_108 : Cond.selects RX2 yX2_bestCap yX2_bestCap ∈ wsX7_caps := mb_X7_caps_wsX7_caps_r5 (List.mem_of_getElem? (i := 11) rfl)
theorem mx_X7_caps_16 : Cond.initialized RX2 ∈ wsX7_caps := mb_X7_caps_wsX7_caps_r1 (List.mem_of_getElem? (i := 15) rfl)
theorem gX7_caps_X2_bestCap : GoodIn wsX7_caps (wsV RX7 234 RX2 yX2_bestCap wsX2_bestCap) := goodIn_app (goodIn_sub (List.forall_mem_cons.mpr ⟨mx_X7_caps_106, List.forall_mem_cons.mpr ⟨mx_X7_caps_107, List.forall_mem_cons.mpr ⟨mx_X7_caps_108, List.forall_mem_cons.mpr ⟨mx_X7_caps_16, fun _ h_ => absurd h_ List.not_mem_nil⟩⟩⟩⟩) (by decide +kernel)) ggX7_caps_X2_bestCap
theorem mx_X7_caps_17 : Cond.code yX2_isLength cX2_isLength 1 (some .boolean) ∈ wsX7_caps := mb_X7_caps_wsX7_caps_r1 (List.mem_of_getElem? (i := 16) rfl)
theorem ggX7_caps_X2_isLength : GoodIn wsX7_caps wsX2_isLength := goodIn_sub (by unfold wsX2_isLength; exact List.forall_mem_cons.mpr ⟨mx_X7_caps_17, fun _ h_ => absurd h_ List.not_mem_nil⟩) (by decide +kernel)
set_option maxRecDepth 20000 in
theorem gX7_caps_X2_isLength : GoodIn wsX7_caps (va_wsS RX7 221 yX2_isLength wsX2_isLength) := goodIn_app (goodIn_of _ (by decide +kernel)) ggX7_caps_X2_isLength
theorem mx_X7_caps_21 : Cond.code yX2_search cX2_search 4 none ∈ wsX7_caps := mb_X7_caps_wsX7_caps_r1 (List.mem_of_getElem? (i := 20) rfl)
theorem mx_X7_caps_23 : Cond.fieldLink RX2 22 "MillTalk$CapSearch" "wanted" "I" ∈ wsX7_caps := mb_X7_caps_wsX7_caps_r1 (List.mem_of_getElem? (i := 22) rfl)
theorem mb_X7_caps_wsX7_caps_r2 {w : Cond} (h : w ∈ wsX7_caps_r2) : w ∈ wsX7_caps := by unfold wsX7_caps; exact List.mem_cons_of_mem _ (List.mem_append_left _ (List.mem_append_left _ (List.mem_append_left _ (List.mem_append_right _ (List.mem_append_left _ (h))))))
theorem mx_X7_caps_25 : Cond.fieldLink RX2 28 "MillTalk$CapSearch" "bestWorth" "I" ∈ wsX7_caps := mb_X7_caps_wsX7_caps_r2 (List.mem_of_getElem? (i := 0) rfl)
theorem mx_X7_caps_26 : Cond.fieldLink RX2 31 "MillTalk$CapSearch" "bestTurns" "I" ∈ wsX7_caps := mb_X7_caps_wsX7_caps_r2 (List.mem_of_getElem? (i := 1) rfl)
theorem mx_X7_caps_27 : Cond.fieldLink RX2 13 "MillTalk$CapSearch" "behind" "[LMillTalk$Level;" ∈ wsX7_caps := mb_X7_caps_wsX7_caps_r2 (List.mem_of_getElem? (i := 2) rfl)
theorem mx_X7_caps_28 : Cond.methodLink RX2 34 yX3_becomeLike ∈ wsX7_caps := mb_X7_caps_wsX7_caps_r2 (List.mem_of_getElem? (i := 3) rfl)
theorem mx_X7_caps_29 : Cond.instanceMethod yX3_becomeLike ∈ wsX7_caps := mb_X7_caps_wsX7_caps_r2 (List.mem_of_getElem? (i := 4) rfl)
theorem mx_X7_caps_30 : Cond.selects RX3 yX3_becomeLike yX3_becomeLike ∈ wsX7_caps := mb_X7_caps_wsX7_caps_r2 (List.mem_of_getElem? (i := 5) rfl)
theorem mx_X7_caps_11 : Cond.initialized RX3 ∈ wsX7_caps := mb_X7_caps_wsX7_caps_r1 (List.mem_of_getElem? (i := 10) rfl)
theorem mx_X7_caps_31 : Cond.code yX3_becomeLike cX3_becomeLike 2 none ∈ wsX7_caps := mb_X7_caps_wsX7_caps_r2 (List.mem_of_getElem? (i := 6) rfl)
theorem mx_X7_caps_13 : Cond.fieldLink RX3 27 "MillTalk$Level" "cells" "I" ∈ wsX7_caps := mb_X7_caps_wsX7_caps_r1 (List.mem_of_getElem? (i := 12) rfl)
theorem mx_X7_caps_32 : Cond.fieldLink RX3 31 "MillTalk$Level" "mill" "I" ∈ wsX7_caps := mb_X7_caps_wsX7_caps_r2 (List.mem_of_getElem? (i := 7) rfl)
theorem mx_X7_caps_33 : Cond.fieldLink RX3 34 "MillTalk$Level" "reach" "I" ∈ wsX7_caps := mb_X7_caps_wsX7_caps_r2 (List.mem_of_getElem? (i := 8) rfl)
theorem mx_X7_caps_34 : Cond.fieldLink RX3 37 "MillTalk$Level" "cap" "I" ∈ wsX7_caps := mb_X7_caps_wsX7_caps_r2 (List.mem_of_getElem? (i := 9) rfl)
theorem mx_X7_caps_35 : Cond.fieldLink RX3 40 "MillTalk$Level" "hour" "I" ∈ wsX7_caps := mb_X7_caps_wsX7_caps_r2 (List.mem_of_getElem? (i := 10) rfl)
theorem mx_X7_caps_36 : Cond.fieldLink RX3 43 "MillTalk$Level" "meal" "I" ∈ wsX7_caps := mb_X7_caps_wsX7_caps_r2 (List.mem_of_getElem? (i := 11) rfl)
theorem mx_X7_caps_37 : Cond.fieldLink RX3 46 "MillTalk$Level" "windCount" "I" ∈ wsX7_caps := mb_X7_caps_wsX7_caps_r2 (List.mem_of_getElem? (i := 12) rfl)
theorem mx_X7_caps_38 : Cond.fieldLink RX3 49 "MillTalk$Level" "soundCount" "I" ∈ wsX7_caps := mb_X7_caps_wsX7_caps_r2 (List.mem_of_getElem? (i := 13) rfl)
theorem mx_X7_caps_39 : Cond.fieldLink RX3 9 "MillTalk$Level" "winds" "[I" ∈ wsX7_caps := mb_X7_caps_wsX7_caps_r2 (List.mem_of_getElem? (i := 14) rfl)
theorem mx_X7_caps_40 : Cond.methodLink RX3 52 arraycopyName ∈ wsX7_caps := mb_X7_caps_wsX7_caps_r2 (List.mem_of_getElem? (i := 15) rfl)
theorem mx_X7_caps_41 : Cond.native arraycopyName ∈ wsX7_caps := mb_X7_caps_wsX7_caps_r2 (List.mem_of_getElem? (i := 16) rfl)
theorem mx_X7_caps_42 : Cond.static arraycopyName ∈ wsX7_caps := mb_X7_caps_wsX7_caps_r2 (List.mem_of_getElem? (i := 17) rfl)
theorem mx_X7_caps_43 : Cond.initialized "java/lang/System" ∈ wsX7_caps := mb_X7_caps_wsX7_caps_r2 (List.mem_of_getElem? (i := 18) rfl)
theorem mx_X7_caps_44 : Cond.fieldLink RX3 15 "MillTalk$Level" "kinds" "[I" ∈ wsX7_caps := mb_X7_caps_wsX7_caps_r2 (List.mem_of_getElem? (i := 19) rfl)
theorem mx_X7_caps_45 : Cond.fieldLink RX3 18 "MillTalk$Level" "places" "[I" ∈ wsX7_caps := mb_X7_caps_wsX7_caps_r2 (List.mem_of_getElem? (i := 20) rfl)
theorem mx_X7_caps_46 : Cond.fieldLink RX3 21 "MillTalk$Level" "louds" "[I" ∈ wsX7_caps := mb_X7_caps_wsX7_caps_r2 (List.mem_of_getElem? (i := 21) rfl)
theorem mx_X7_caps_47 : Cond.fieldLink RX3 24 "MillTalk$Level" "hows" "[I" ∈ wsX7_caps := mb_X7_caps_wsX7_caps_r2 (List.mem_of_getElem? (i := 22) rfl)
theorem mx_X7_caps_48 : Cond.methodLink RX2 38 yX2_tryRows ∈ wsX7_caps := mb_X7_caps_wsX7_caps_r2 (List.mem_of_getElem? (i := 23) rfl)
theorem mb_X7_caps_wsX7_caps_r3 {w : Cond} (h : w ∈ wsX7_caps_r3) : w ∈ wsX7_caps := by unfold wsX7_caps; exact List.mem_cons_of_mem _ (List.mem_append_left _ (List.mem_append_left _ (List.mem_append_left _ (List.mem_append_right _ (List.mem_append_right _ (List.mem_append_left _ (h)))))))
theorem mx_X7_caps_49 : Cond.instanceMethod yX2_tryRows ∈ wsX7_caps := mb_X7_caps_wsX7_caps_r3 (List.mem_of_getElem? (i := 0) rfl)
theorem mx_X7_caps_50 : Cond.selects RX2 yX2_tryRows yX2_tryRows ∈ wsX7_caps := mb_X7_caps_wsX7_caps_r3 (List.mem_of_getElem? (i := 1) rfl)
theorem mx_X7_caps_51 : Cond.code yX2_tryRows cX2_tryRows 7 none ∈ wsX7_caps := mb_X7_caps_wsX7_caps_r3 (List.mem_of_getElem? (i := 2) rfl)
theorem mx_X7_caps_52 : Cond.fieldLink RX2 46 "MillTalk$Level" "cap" "I" ∈ wsX7_caps := mb_X7_caps_wsX7_caps_r3 (List.mem_of_getElem? (i := 3) rfl)
theorem mx_X7_caps_53 : Cond.methodLink RX2 42 yX2_judge ∈ wsX7_caps := mb_X7_caps_wsX7_caps_r3 (List.mem_of_getElem? (i := 4) rfl)
theorem mx_X7_caps_54 : Cond.instanceMethod yX2_judge ∈ wsX7_caps := mb_X7_caps_wsX7_caps_r3 (List.mem_of_getElem? (i := 5) rfl)
theorem mx_X7_caps_55 : Cond.selects RX2 yX2_judge yX2_judge ∈ wsX7_caps := mb_X7_caps_wsX7_caps_r3 (List.mem_of_getElem? (i := 6) rfl)
theorem mx_X7_caps_56 : Cond.code yX2_judge cX2_judge 5 none ∈ wsX7_caps := mb_X7_caps_wsX7_caps_r3 (List.mem_of_getElem? (i := 7) rfl)
theorem mx_X7_caps_57 : Cond.methodLink RX2 52 yX2_worthOf ∈ wsX7_caps := mb_X7_caps_wsX7_caps_r3 (List.mem_of_getElem? (i := 8) rfl)
theorem mx_X7_caps_58 : Cond.instanceMethod yX2_worthOf ∈ wsX7_caps := mb_X7_caps_wsX7_caps_r3 (List.mem_of_getElem? (i := 9) rfl)
theorem mx_X7_caps_59 : Cond.selects RX2 yX2_worthOf yX2_worthOf ∈ wsX7_caps := mb_X7_caps_wsX7_caps_r3 (List.mem_of_getElem? (i := 10) rfl)
theorem mx_X7_caps_60 : Cond.code yX2_worthOf cX2_worthOf 2 (some .int) ∈ wsX7_caps := mb_X7_caps_wsX7_caps_r3 (List.mem_of_getElem? (i := 11) rfl)
theorem mx_X7_caps_61 : Cond.fieldLink RX2 56 "MillTalk$Level" "meal" "I" ∈ wsX7_caps := mb_X7_caps_wsX7_caps_r3 (List.mem_of_getElem? (i := 12) rfl)
theorem mx_X7_caps_62 : Cond.methodLink RX2 59 yX3_soundsThatAre ∈ wsX7_caps := mb_X7_caps_wsX7_caps_r3 (List.mem_of_getElem? (i := 13) rfl)
theorem mx_X7_caps_63 : Cond.instanceMethod yX3_soundsThatAre ∈ wsX7_caps := mb_X7_caps_wsX7_caps_r3 (List.mem_of_getElem? (i := 14) rfl)
theorem mx_X7_caps_64 : Cond.selects RX3 yX3_soundsThatAre yX3_soundsThatAre ∈ wsX7_caps := mb_X7_caps_wsX7_caps_r3 (List.mem_of_getElem? (i := 15) rfl)
theorem mx_X7_caps_65 : Cond.code yX3_soundsThatAre cX3_soundsThatAre 4 (some .int) ∈ wsX7_caps := mb_X7_caps_wsX7_caps_r3 (List.mem_of_getElem? (i := 16) rfl)
theorem mx_X7_caps_66 : Cond.methodLink RX2 49 yX3_pass ∈ wsX7_caps := mb_X7_caps_wsX7_caps_r3 (List.mem_of_getElem? (i := 17) rfl)
theorem mx_X7_caps_67 : Cond.instanceMethod yX3_pass ∈ wsX7_caps := mb_X7_caps_wsX7_caps_r3 (List.mem_of_getElem? (i := 18) rfl)
theorem mx_X7_caps_68 : Cond.selects RX3 yX3_pass yX3_pass ∈ wsX7_caps := mb_X7_caps_wsX7_caps_r3 (List.mem_of_getElem? (i := 19) rfl)
theorem mx_X7_caps_69 : Cond.code yX3_pass cX3_pass 3 none ∈ wsX7_caps := mb_X7_caps_wsX7_caps_r3 (List.mem_of_getElem? (i := 20) rfl)
theorem mx_X7_caps_70 : Cond.methodLink RX3 87 yX3_windOn ∈ wsX7_caps := mb_X7_caps_wsX7_caps_r3 (List.mem_of_getElem? (i := 21) rfl)
theorem mx_X7_caps_71 : Cond.instanceMethod yX3_windOn ∈ wsX7_caps := mb_X7_caps_wsX7_caps_r3 (List.mem_of_getElem? (i := 22) rfl)
theorem mx_X7_caps_72 : Cond.selects RX3 yX3_windOn yX3_windOn ∈ wsX7_caps := mb_X7_caps_wsX7_caps_r3 (List.mem_of_getElem? (i := 23) rfl)
theorem mb_X7_caps_wsX7_caps_r4 {w : Cond} (h : w ∈ wsX7_caps_r4) : w ∈ wsX7_caps := by unfold wsX7_caps; exact List.mem_cons_of_mem _ (List.mem_append_left _ (List.mem_append_left _ (List.mem_append_left _ (List.mem_append_right _ (List.mem_append_right _ (List.mem_append_right _ (List.mem_append_left _ (h))))))))
theorem mx_X7_caps_73 : Cond.code yX3_windOn cX3_windOn 2 (some .int) ∈ wsX7_caps := mb_X7_caps_wsX7_caps_r4 (List.mem_of_getElem? (i := 0) rfl)
theorem mx_X7_caps_74 : Cond.methodLink RX3 90 yX3_passSound ∈ wsX7_caps := mb_X7_caps_wsX7_caps_r4 (List.mem_of_getElem? (i := 1) rfl)
theorem mx_X7_caps_75 : Cond.instanceMethod yX3_passSound ∈ wsX7_caps := mb_X7_caps_wsX7_caps_r4 (List.mem_of_getElem? (i := 2) rfl)
theorem mx_X7_caps_76 : Cond.selects RX3 yX3_passSound yX3_passSound ∈ wsX7_caps := mb_X7_caps_wsX7_caps_r4 (List.mem_of_getElem? (i := 3) rfl)
theorem mx_X7_caps_77 : Cond.code yX3_passSound cX3_passSound 5 none ∈ wsX7_caps := mb_X7_caps_wsX7_caps_r4 (List.mem_of_getElem? (i := 4) rfl)
theorem mx_X7_caps_78 : Cond.methodLink RX3 63 Lib.Math.min.name ∈ wsX7_caps := mb_X7_caps_wsX7_caps_r4 (List.mem_of_getElem? (i := 5) rfl)
theorem mx_X7_caps_79 : Cond.static Lib.Math.min.name ∈ wsX7_caps := mb_X7_caps_wsX7_caps_r4 (List.mem_of_getElem? (i := 6) rfl)
theorem mx_X7_caps_80 : Cond.initialized "java/lang/Math" ∈ wsX7_caps := mb_X7_caps_wsX7_caps_r4 (List.mem_of_getElem? (i := 7) rfl)
theorem mx_X7_caps_81 : Cond.code Lib.Math.min.name Lib.Math.min.code 2 (some .int) ∈ wsX7_caps := mb_X7_caps_wsX7_caps_r4 (List.mem_of_getElem? (i := 8) rfl)
theorem mx_X7_caps_82 : Cond.methodLink RX3 58 yX3_isLoose ∈ wsX7_caps := mb_X7_caps_wsX7_caps_r4 (List.mem_of_getElem? (i := 9) rfl)
theorem mx_X7_caps_83 : Cond.instanceMethod yX3_isLoose ∈ wsX7_caps := mb_X7_caps_wsX7_caps_r4 (List.mem_of_getElem? (i := 10) rfl)
theorem mx_X7_caps_84 : Cond.selects RX3 yX3_isLoose yX3_isLoose ∈ wsX7_caps := mb_X7_caps_wsX7_caps_r4 (List.mem_of_getElem? (i := 11) rfl)
theorem mx_X7_caps_85 : Cond.code yX3_isLoose cX3_isLoose 2 (some .boolean) ∈ wsX7_caps := mb_X7_caps_wsX7_caps_r4 (List.mem_of_getElem? (i := 12) rfl)
theorem mx_X7_caps_86 : Cond.methodLink RX3 69 yX3_driftOf ∈ wsX7_caps := mb_X7_caps_wsX7_caps_r4 (List.mem_of_getElem? (i := 13) rfl)
theorem mx_X7_caps_87 : Cond.instanceMethod yX3_driftOf ∈ wsX7_caps := mb_X7_caps_wsX7_caps_r4 (List.mem_of_getElem? (i := 14) rfl)
theorem mx_X7_caps_88 : Cond.selects RX3 yX3_driftOf yX3_driftOf ∈ wsX7_caps := mb_X7_caps_wsX7_caps_r4 (List.mem_of_getElem? (i := 15) rfl)
theorem mx_X7_caps_89 : Cond.code yX3_driftOf cX3_driftOf 4 (some .int) ∈ wsX7_caps := mb_X7_caps_wsX7_caps_r4 (List.mem_of_getElem? (i := 16) rfl)
theorem mx_X7_caps_90 : Cond.methodLink RX3 72 yX3_loudBehindHour ∈ wsX7_caps := mb_X7_caps_wsX7_caps_r4 (List.mem_of_getElem? (i := 17) rfl)
theorem mx_X7_caps_91 : Cond.instanceMethod yX3_loudBehindHour ∈ wsX7_caps := mb_X7_caps_wsX7_caps_r4 (List.mem_of_getElem? (i := 18) rfl)
theorem mx_X7_caps_92 : Cond.selects RX3 yX3_loudBehindHour yX3_loudBehindHour ∈ wsX7_caps := mb_X7_caps_wsX7_caps_r4 (List.mem_of_getElem? (i := 19) rfl)
theorem mx_X7_caps_93 : Cond.code yX3_loudBehindHour cX3_loudBehindHour 2 (some .int) ∈ wsX7_caps := mb_X7_caps_wsX7_caps_r4 (List.mem_of_getElem? (i := 20) rfl)
theorem mx_X7_caps_94 : Cond.methodLink RX3 76 yX3_hasCell ∈ wsX7_caps := mb_X7_caps_wsX7_caps_r4 (List.mem_of_getElem? (i := 21) rfl)
theorem mx_X7_caps_95 : Cond.instanceMethod yX3_hasCell ∈ wsX7_caps := mb_X7_caps_wsX7_caps_r4 (List.mem_of_getElem? (i := 22) rfl)
theorem mx_X7_caps_96 : Cond.selects RX3 yX3_hasCell yX3_hasCell ∈ wsX7_caps := mb_X7_caps_wsX7_caps_r4 (List.mem_of_getElem? (i := 23) rfl)
theorem mx_X7_caps_97 : Cond.code yX3_hasCell cX3_hasCell 2 (some .boolean) ∈ wsX7_caps := mb_X7_caps_wsX7_caps_r5 (List.mem_of_getElem? (i := 0) rfl)
theorem mx_X7_caps_98 : Cond.methodLink RX3 79 yX3_letLoose ∈ wsX7_caps := mb_X7_caps_wsX7_caps_r5 (List.mem_of_getElem? (i := 1) rfl)
theorem mx_X7_caps_99 : Cond.instanceMethod yX3_letLoose ∈ wsX7_caps := mb_X7_caps_wsX7_caps_r5 (List.mem_of_getElem? (i := 2) rfl)
theorem mx_X7_caps_100 : Cond.selects RX3 yX3_letLoose yX3_letLoose ∈ wsX7_caps := mb_X7_caps_wsX7_caps_r5 (List.mem_of_getElem? (i := 3) rfl)
theorem mx_X7_caps_101 : Cond.code yX3_letLoose cX3_letLoose 4 none ∈ wsX7_caps := mb_X7_caps_wsX7_caps_r5 (List.mem_of_getElem? (i := 4) rfl)
theorem mx_X7_caps_102 : Cond.methodLink RX3 83 yX3_grindsAt ∈ wsX7_caps := mb_X7_caps_wsX7_caps_r5 (List.mem_of_getElem? (i := 5) rfl)
theorem mx_X7_caps_103 : Cond.instanceMethod yX3_grindsAt ∈ wsX7_caps := mb_X7_caps_wsX7_caps_r5 (List.mem_of_getElem? (i := 6) rfl)
theorem mx_X7_caps_104 : Cond.selects RX3 yX3_grindsAt yX3_grindsAt ∈ wsX7_caps := mb_X7_caps_wsX7_caps_r5 (List.mem_of_getElem? (i := 7) rfl)
theorem mx_X7_caps_105 : Cond.code yX3_grindsAt cX3_grindsAt 4 (some .boolean) ∈ wsX7_caps := mb_X7_caps_wsX7_caps_r5 (List.mem_of_getElem? (i := 8) rfl)
theorem mb_X7_caps_wsX30 {w : Cond} (h : w ∈ wsX30) : w ∈ wsX7_caps := by unfold wsX7_caps; exact List.mem_cons_of_mem _ (List.mem_append_right _ (h))
theorem ggX7_caps_X2_search : GoodIn wsX7_caps wsX2_search := goodIn_sub (by unfold wsX2_search; exact List.forall_mem_cons.mpr ⟨mx_X7_caps_21, List.forall_mem_append.mpr ⟨List.forall_mem_append.mpr ⟨List.forall_mem_append.mpr ⟨(by unfold wsX2_search_r1; exact List.forall_mem_cons.mpr ⟨mx_X7_caps_22, List.forall_mem_cons.mpr ⟨mx_X7_caps_23, List.forall_mem_cons.mpr ⟨mx_X7_caps_24, List.forall_mem_cons.mpr ⟨mx_X7_caps_25, List.forall_mem_cons.mpr ⟨mx_X7_caps_26, List.forall_mem_cons.mpr ⟨mx_X7_caps_27, List.forall_mem_cons.mpr ⟨mx_X7_caps_28, List.forall_mem_cons.mpr ⟨mx_X7_caps_29, List.forall_mem_cons.mpr ⟨mx_X7_caps_30, List.forall_mem_cons.mpr ⟨mx_X7_caps_11, List.forall_mem_cons.mpr ⟨mx_X7_caps_31, List.forall_mem_cons.mpr ⟨mx_X7_caps_13, List.forall_mem_cons.mpr ⟨mx_X7_caps_32, List.forall_mem_cons.mpr ⟨mx_X7_caps_33, List.forall_mem_cons.mpr ⟨mx_X7_caps_34, List.forall_mem_cons.mpr ⟨mx_X7_caps_35, List.forall_mem_cons.mpr ⟨mx_X7_caps_36, List.forall_mem_cons.mpr ⟨mx_X7_caps_37, List.forall_mem_cons.mpr ⟨mx_X7_caps_38, List.forall_mem_cons.mpr ⟨mx_X7_caps_39, List.forall_mem_cons.mpr ⟨mx_X7_caps_40, List.forall_mem_cons.mpr ⟨mx_X7_caps_41, List.forall_mem_cons.mpr ⟨mx_X7_caps_42, List.forall_mem_cons.mpr ⟨mx_X7_caps_43, fun _ h_ => absurd h_ List.not_mem_nil⟩⟩⟩⟩⟩⟩⟩⟩⟩⟩⟩⟩⟩⟩⟩⟩⟩⟩⟩⟩⟩⟩⟩⟩), List.forall_mem_append.mpr ⟨(by unfold wsX2_search_r2; exact List.forall_mem_cons.mpr ⟨mx_X7_caps_44, List.forall_mem_cons.mpr ⟨mx_X7_caps_45, List.forall_mem_cons.mpr ⟨mx_X7_caps_46, List.forall_mem_cons.mpr ⟨mx_X7_caps_47, List.forall_mem_cons.mpr ⟨mx_X7_caps_48, List.forall_mem_cons.mpr ⟨mx_X7_caps_49, List.forall_mem_cons.mpr ⟨mx_X7_caps_50, List.forall_mem_cons.mpr ⟨mx_X7_caps_16, List.forall_mem_cons.mpr ⟨mx_X7_caps_51, List.forall_mem_cons.mpr ⟨mx_X7_caps_52, List.forall_mem_cons.mpr ⟨mx_X7_caps_53, List.forall_mem_cons.mpr ⟨mx_X7_caps_54, List.forall_mem_cons.mpr ⟨mx_X7_caps_55, List.forall_mem_cons.mpr ⟨mx_X7_caps_56, List.forall_mem_cons.mpr ⟨mx_X7_caps_57, List.forall_mem_cons.mpr ⟨mx_X7_caps_58, List.forall_mem_cons.mpr ⟨mx_X7_caps_59, List.forall_mem_cons.mpr ⟨mx_X7_caps_60, List.forall_mem_cons.mpr ⟨mx_X7_caps_61, List.forall_mem_cons.mpr ⟨mx_X7_caps_62, List.forall_mem_cons.mpr ⟨mx_X7_caps_63, List.forall_mem_cons.mpr ⟨mx_X7_caps_64, List.forall_mem_cons.mpr ⟨mx_X7_caps_65, List.forall_mem_cons.mpr ⟨mx_X7_caps_66, fun _ h_ => absurd h_ List.not_mem_nil⟩⟩⟩⟩⟩⟩⟩⟩⟩⟩⟩⟩⟩⟩⟩⟩⟩⟩⟩⟩⟩⟩⟩⟩), List.forall_mem_append.mpr ⟨(by unfold wsX2_search_r3; exact List.forall_mem_cons.mpr ⟨mx_X7_caps_67, List.forall_mem_cons.mpr ⟨mx_X7_caps_68, List.forall_mem_cons.mpr ⟨mx_X7_caps_69, List.forall_mem_cons.mpr ⟨mx_X7_caps_70, List.forall_mem_cons.mpr ⟨mx_X7_caps_71, List.forall_mem_cons.mpr ⟨mx_X7_caps_72, List.forall_mem_cons.mpr ⟨mx_X7_caps_73, List.forall_mem_cons.mpr ⟨mx_X7_caps_74, List.forall_mem_cons.mpr ⟨mx_X7_caps_75, List.forall_mem_cons.mpr ⟨mx_X7_caps_76, List.forall_mem_cons.mpr ⟨mx_X7_caps_77, List.forall_mem_cons.mpr ⟨mx_X7_caps_78, List.forall_mem_cons.mpr ⟨mx_X7_caps_79, List.forall_mem_cons.mpr ⟨mx_X7_caps_80, List.forall_mem_cons.mpr ⟨mx_X7_caps_81, List.forall_mem_cons.mpr ⟨mx_X7_caps_82, List.forall_mem_cons.mpr ⟨mx_X7_caps_83, List.forall_mem_cons.mpr ⟨mx_X7_caps_84, List.forall_mem_cons.mpr ⟨mx_X7_caps_85, List.forall_mem_cons.mpr ⟨mx_X7_caps_86, List.forall_mem_cons.mpr ⟨mx_X7_caps_87, List.forall_mem_cons.mpr ⟨mx_X7_caps_88, List.forall_mem_cons.mpr ⟨mx_X7_caps_89, List.forall_mem_cons.mpr ⟨mx_X7_caps_90, fun _ h_ => absurd h_ List.not_mem_nil⟩⟩⟩⟩⟩⟩⟩⟩⟩⟩⟩⟩⟩⟩⟩⟩⟩⟩⟩⟩⟩⟩⟩⟩), (by unfold wsX2_search_r4; exact List.forall_mem_cons.mpr ⟨mx_X7_caps_91, List.forall_mem_cons.mpr ⟨mx_X7_caps_92, List.forall_mem_cons.mpr ⟨mx_X7_caps_93, List.forall_mem_cons.mpr ⟨mx_X7_caps_94, List.forall_mem_cons.mpr ⟨mx_X7_caps_95, List.forall_mem_cons.mpr ⟨mx_X7_caps_96, List.forall_mem_cons.mpr ⟨mx_X7_caps_97, List.forall_mem_cons.mpr ⟨mx_X7_caps_98, List.forall_mem_cons.mpr ⟨mx_X7_caps_99, List.forall_mem_cons.mpr ⟨mx_X7_caps_100, List.forall_mem_cons.mpr ⟨mx_X7_caps_101, List.forall_mem_cons.mpr ⟨mx_X7_caps_102, List.forall_mem_cons.mpr ⟨mx_X7_caps_103, List.forall_mem_cons.mpr ⟨mx_X7_caps_104, List.forall_mem_cons.mpr ⟨mx_X7_caps_105, fun _ h_ => absurd h_ List.not_mem_nil⟩⟩⟩⟩⟩⟩⟩⟩⟩⟩⟩⟩⟩⟩⟩)⟩⟩⟩, (fun _ h_ => mb_X7_caps_wsX20 h_)⟩, (fun _ h_ => mb_X7_caps_wsX30 h_)⟩⟩) (by decide +kernel)
theorem mx_X7_caps_18 : Cond.methodLink RX7 224 yX2_search ∈ wsX7_caps := mb_X7_caps_wsX7_caps_r1 (List.mem_of_getElem? (i := 17) rfl)
theorem mx_X7_caps_19 : Cond.instanceMethod yX2_search ∈ wsX7_caps := mb_X7_caps_wsX7_caps_r1 (List.mem_of_getElem? (i := 18) rfl)
theorem mx_X7_caps_20 : Cond.selects RX2 yX2_search yX2_search ∈ wsX7_caps := mb_X7_caps_wsX7_caps_r1 (List.mem_of_getElem? (i := 19) rfl)
theorem gX7_caps_X2_search : GoodIn wsX7_caps (wsV RX7 224 RX2 yX2_search wsX2_search) := goodIn_app (goodIn_sub (List.forall_mem_cons.mpr ⟨mx_X7_caps_18, List.forall_mem_cons.mpr ⟨mx_X7_caps_19, List.forall_mem_cons.mpr ⟨mx_X7_caps_20, List.forall_mem_cons.mpr ⟨mx_X7_caps_16, fun _ h_ => absurd h_ List.not_mem_nil⟩⟩⟩⟩) (by decide +kernel)) ggX7_caps_X2_search
theorem mx_X7_caps_12 : Cond.code yX3_isTold cX3_isTold 1 (some .boolean) ∈ wsX7_caps := mb_X7_caps_wsX7_caps_r1 (List.mem_of_getElem? (i := 11) rfl)
theorem ggX7_caps_X3_isTold : GoodIn wsX7_caps wsX3_isTold := goodIn_sub (by unfold wsX3_isTold; exact List.forall_mem_cons.mpr ⟨mx_X7_caps_12, List.forall_mem_append.mpr ⟨List.forall_mem_cons.mpr ⟨mx_X7_caps_13, fun _ h_ => absurd h_ List.not_mem_nil⟩, (fun _ h_ => mb_X7_caps_wsX30 h_)⟩⟩) (by decide +kernel)
theorem mx_X7_caps_8 : Cond.methodLink RX7 145 yX3_isTold ∈ wsX7_caps := mb_X7_caps_wsX7_caps_r1 (List.mem_of_getElem? (i := 7) rfl)
theorem mx_X7_caps_9 : Cond.instanceMethod yX3_isTold ∈ wsX7_caps := mb_X7_caps_wsX7_caps_r1 (List.mem_of_getElem? (i := 8) rfl)
theorem mx_X7_caps_10 : Cond.selects RX3 yX3_isTold yX3_isTold ∈ wsX7_caps := mb_X7_caps_wsX7_caps_r1 (List.mem_of_getElem? (i := 9) rfl)
theorem gX7_caps_X3_isTold : GoodIn wsX7_caps (wsV RX7 145 RX3 yX3_isTold wsX3_isTold) := goodIn_app (goodIn_sub (List.forall_mem_cons.mpr ⟨mx_X7_caps_8, List.forall_mem_cons.mpr ⟨mx_X7_caps_9, List.forall_mem_cons.mpr ⟨mx_X7_caps_10, List.forall_mem_cons.mpr ⟨mx_X7_caps_11, fun _ h_ => absurd h_ List.not_mem_nil⟩⟩⟩⟩) (by decide +kernel)) ggX7_caps_X3_isTold
theorem mb_X7_copy_wsX7_copy_r1 {w : Cond} (h : w ∈ wsX7_copy_r1) : w ∈ wsX7_copy := by unfold wsX7_copy; exact List.mem_cons_of_mem _ (List.mem_append_left _ (List.mem_append_left _ (List.mem_append_left _ (h))))
theorem mx_X7_copy_10 : Cond.code yX5_findingOfMove cX5_findingOfMove 6 (some .int) ∈ wsX7_copy := mb_X7_copy_wsX7_copy_r1 (List.mem_of_getElem? (i := 9) rfl)
theorem mx_X7_copy_11 : Cond.fieldLink RX5 16 "MillTalk$Rows" "lanes" "[I" ∈ wsX7_copy := mb_X7_copy_wsX7_copy_r1 (List.mem_of_getElem? (i := 10) rfl)
theorem mx_X7_copy_12 : Cond.methodLink RX5 29 yX5_isMissing ∈ wsX7_copy := mb_X7_copy_wsX7_copy_r1 (List.mem_of_getElem? (i := 11) rfl)
theorem mx_X7_copy_13 : Cond.instanceMethod yX5_isMissing ∈ wsX7_copy := mb_X7_copy_wsX7_copy_r1 (List.mem_of_getElem? (i := 12) rfl)
theorem mx_X7_copy_14 : Cond.selects RX5 yX5_isMissing yX5_isMissing ∈ wsX7_copy := mb_X7_copy_wsX7_copy_r1 (List.mem_of_getElem? (i := 13) rfl)
theorem mx_X7_copy_5 : Cond.initialized RX5 ∈ wsX7_copy := mb_X7_copy_wsX7_copy_r1 (List.mem_of_getElem? (i := 4) rfl)
theorem mx_X7_copy_15 : Cond.code yX5_isMissing cX5_isMissing 2 (some .boolean) ∈ wsX7_copy := mb_X7_copy_wsX7_copy_r1 (List.mem_of_getElem? (i := 14) rfl)
theorem mx_X7_copy_16 : Cond.methodLink RX5 33 yX5_hasPlaces ∈ wsX7_copy := mb_X7_copy_wsX7_copy_r1 (List.mem_of_getElem? (i := 15) rfl)
theorem mx_X7_copy_17 : Cond.instanceMethod yX5_hasPlaces ∈ wsX7_copy := mb_X7_copy_wsX7_copy_r1 (List.mem_of_getElem? (i := 16) rfl)
theorem mx_X7_copy_18 : Cond.selects RX5 yX5_hasPlaces yX5_hasPlaces ∈ wsX7_copy := mb_X7_copy_wsX7_copy_r1 (List.mem_of_getElem? (i := 17) rfl)
theorem mx_X7_copy_19 : Cond.code yX5_hasPlaces cX5_hasPlaces 4 (some .boolean) ∈ wsX7_copy := mb_X7_copy_wsX7_copy_r1 (List.mem_of_getElem? (i := 18) rfl)
theorem mx_X7_copy_20 : Cond.fieldLink RX5 20 "MillTalk$Rows" "lengths" "[I" ∈ wsX7_copy := mb_X7_copy_wsX7_copy_r1 (List.mem_of_getElem? (i := 19) rfl)
theorem mb_X7_copy_wsX50 {w : Cond} (h : w ∈ wsX50) : w ∈ wsX7_copy := by unfold wsX7_copy; exact List.mem_cons_of_mem _ (List.mem_append_right _ (h))
theorem ggX7_copy_X5_findingOfMove : GoodIn wsX7_copy wsX5_findingOfMove := goodIn_sub (by unfold wsX5_findingOfMove; exact List.forall_mem_cons.mpr ⟨mx_X7_copy_10, List.forall_mem_append.mpr ⟨List.forall_mem_cons.mpr ⟨mx_X7_copy_11, List.forall_mem_cons.mpr ⟨mx_X7_copy_12, List.forall_mem_cons.mpr ⟨mx_X7_copy_13, List.forall_mem_cons.mpr ⟨mx_X7_copy_14, List.forall_mem_cons.mpr ⟨mx_X7_copy_5, List.forall_mem_cons.mpr ⟨mx_X7_copy_15, List.forall_mem_cons.mpr ⟨mx_X7_copy_16, List.forall_mem_cons.mpr ⟨mx_X7_copy_17, List.forall_mem_cons.mpr ⟨mx_X7_copy_18, List.forall_mem_cons.mpr ⟨mx_X7_copy_19, List.forall_mem_cons.mpr ⟨mx_X7_copy_20, fun _ h_ => absurd h_ List.not_mem_nil⟩⟩⟩⟩⟩⟩⟩⟩⟩⟩⟩, (fun _ h_ => mb_X7_copy_wsX50 h_)⟩⟩) (by decide +kernel)
theorem mx_X7_copy_7 : Cond.methodLink RX7 91 yX5_findingOfMove ∈ wsX7_copy := mb_X7_copy_wsX7_copy_r1 (List.mem_of_getElem? (i := 6) rfl)
theorem mx_X7_copy_8 : Cond.instanceMethod yX5_findingOfMove ∈ wsX7_copy := mb_X7_copy_wsX7_copy_r1 (List.mem_of_getElem? (i := 7) rfl)
theorem mx_X7_copy_9 : Cond.selects RX5 yX5_findingOfMove yX5_findingOfMove ∈ wsX7_copy := mb_X7_copy_wsX7_copy_r1 (List.mem_of_getElem? (i := 8) rfl)
theorem gX7_copy_X5_findingOfMove : GoodIn wsX7_copy (wsV RX7 91 RX5 yX5_findingOfMove wsX5_findingOfMove) := goodIn_app (goodIn_sub (List.forall_mem_cons.mpr ⟨mx_X7_copy_7, List.forall_mem_cons.mpr ⟨mx_X7_copy_8, List.forall_mem_cons.mpr ⟨mx_X7_copy_9, List.forall_mem_cons.mpr ⟨mx_X7_copy_5, fun _ h_ => absurd h_ List.not_mem_nil⟩⟩⟩⟩) (by decide +kernel)) ggX7_copy_X5_findingOfMove
theorem mx_X7_copy_6 : Cond.code yX5_isRow cX5_isRow 1 (some .boolean) ∈ wsX7_copy := mb_X7_copy_wsX7_copy_r1 (List.mem_of_getElem? (i := 5) rfl)
theorem ggX7_copy_X5_isRow : GoodIn wsX7_copy wsX5_isRow := goodIn_sub (by unfold wsX5_isRow; exact List.forall_mem_cons.mpr ⟨mx_X7_copy_6, fun _ h_ => absurd h_ List.not_mem_nil⟩) (by decide +kernel)
set_option maxRecDepth 20000 in
theorem gX7_copy_X5_isRow : GoodIn wsX7_copy (va_wsS RX7 65 yX5_isRow wsX5_isRow) := goodIn_app (goodIn_of _ (by decide +kernel)) ggX7_copy_X5_isRow
theorem mb_X7_copy_wsX7_copy_r2 {w : Cond} (h : w ∈ wsX7_copy_r2) : w ∈ wsX7_copy := by unfold wsX7_copy; exact List.mem_cons_of_mem _ (List.mem_append_left _ (List.mem_append_left _ (List.mem_append_right _ (h))))
theorem mx_X7_copy_31 : Cond.code yX5_move cX5_move 6 none ∈ wsX7_copy := mb_X7_copy_wsX7_copy_r2 (List.mem_of_getElem? (i := 6) rfl)
theorem mx_X7_copy_32 : Cond.fieldLink RX5 13 "MillTalk$Rows" "items" "[[I" ∈ wsX7_copy := mb_X7_copy_wsX7_copy_r2 (List.mem_of_getElem? (i := 7) rfl)
theorem mx_X7_copy_33 : Cond.methodLink RX5 37 arraycopyName ∈ wsX7_copy := mb_X7_copy_wsX7_copy_r2 (List.mem_of_getElem? (i := 8) rfl)
theorem mx_X7_copy_34 : Cond.native arraycopyName ∈ wsX7_copy := mb_X7_copy_wsX7_copy_r2 (List.mem_of_getElem? (i := 9) rfl)
theorem mx_X7_copy_35 : Cond.static arraycopyName ∈ wsX7_copy := mb_X7_copy_wsX7_copy_r2 (List.mem_of_getElem? (i := 10) rfl)
theorem mx_X7_copy_36 : Cond.initialized "java/lang/System" ∈ wsX7_copy := mb_X7_copy_wsX7_copy_r2 (List.mem_of_getElem? (i := 11) rfl)
theorem ggX7_copy_X5_move : GoodIn wsX7_copy wsX5_move := goodIn_sub (by unfold wsX5_move; exact List.forall_mem_cons.mpr ⟨mx_X7_copy_31, List.forall_mem_append.mpr ⟨List.forall_mem_cons.mpr ⟨mx_X7_copy_32, List.forall_mem_cons.mpr ⟨mx_X7_copy_33, List.forall_mem_cons.mpr ⟨mx_X7_copy_34, List.forall_mem_cons.mpr ⟨mx_X7_copy_35, List.forall_mem_cons.mpr ⟨mx_X7_copy_36, fun _ h_ => absurd h_ List.not_mem_nil⟩⟩⟩⟩⟩, (fun _ h_ => mb_X7_copy_wsX50 h_)⟩⟩) (by decide +kernel)
theorem mx_X7_copy_28 : Cond.methodLink RX7 95 yX5_move ∈ wsX7_copy := mb_X7_copy_wsX7_copy_r2 (List.mem_of_getElem? (i := 3) rfl)
theorem mx_X7_copy_29 : Cond.instanceMethod yX5_move ∈ wsX7_copy := mb_X7_copy_wsX7_copy_r2 (List.mem_of_getElem? (i := 4) rfl)
theorem mx_X7_copy_30 : Cond.selects RX5 yX5_move yX5_move ∈ wsX7_copy := mb_X7_copy_wsX7_copy_r2 (List.mem_of_getElem? (i := 5) rfl)
theorem gX7_copy_X5_move : GoodIn wsX7_copy (wsV RX7 95 RX5 yX5_move wsX5_move) := goodIn_app (goodIn_sub (List.forall_mem_cons.mpr ⟨mx_X7_copy_28, List.forall_mem_cons.mpr ⟨mx_X7_copy_29, List.forall_mem_cons.mpr ⟨mx_X7_copy_30, List.forall_mem_cons.mpr ⟨mx_X7_copy_5, fun _ h_ => absurd h_ List.not_mem_nil⟩⟩⟩⟩) (by decide +kernel)) ggX7_copy_X5_move
theorem mx_X7_copy_25 : Cond.code yX7_found cX7_found 2 (some .int) ∈ wsX7_copy := mb_X7_copy_wsX7_copy_r2 (List.mem_of_getElem? (i := 0) rfl)
theorem mx_X7_copy_26 : Cond.fieldLink RX7 323 "MillTalk" "latestFinding" "I" ∈ wsX7_copy := mb_X7_copy_wsX7_copy_r2 (List.mem_of_getElem? (i := 1) rfl)
theorem mx_X7_copy_27 : Cond.constant RX7 326 (-1000010) ∈ wsX7_copy := mb_X7_copy_wsX7_copy_r2 (List.mem_of_getElem? (i := 2) rfl)
theorem mb_X7_copy_wsX70 {w : Cond} (h : w ∈ wsX70) : w ∈ wsX7_copy := by unfold wsX7_copy; exact List.mem_cons_of_mem _ (List.mem_append_left _ (List.mem_append_right _ (h)))
theorem ggX7_copy_X7_found : GoodIn wsX7_copy wsX7_found := goodIn_sub (by unfold wsX7_found; exact List.forall_mem_cons.mpr ⟨mx_X7_copy_25, List.forall_mem_append.mpr ⟨List.forall_mem_cons.mpr ⟨mx_X7_copy_26, List.forall_mem_cons.mpr ⟨mx_X7_copy_27, fun _ h_ => absurd h_ List.not_mem_nil⟩⟩, (fun _ h_ => mb_X7_copy_wsX70 h_)⟩⟩) (by decide +kernel)
theorem mx_X7_copy_21 : Cond.methodLink RX7 73 yX7_found ∈ wsX7_copy := mb_X7_copy_wsX7_copy_r1 (List.mem_of_getElem? (i := 20) rfl)
theorem mx_X7_copy_22 : Cond.instanceMethod yX7_found ∈ wsX7_copy := mb_X7_copy_wsX7_copy_r1 (List.mem_of_getElem? (i := 21) rfl)
theorem mx_X7_copy_23 : Cond.selects RX7 yX7_found yX7_found ∈ wsX7_copy := mb_X7_copy_wsX7_copy_r1 (List.mem_of_getElem? (i := 22) rfl)
theorem mx_X7_copy_24 : Cond.initialized RX7 ∈ wsX7_copy := mb_X7_copy_wsX7_copy_r1 (List.mem_of_getElem? (i := 23) rfl)
theorem gX7_copy_X7_found : GoodIn wsX7_copy (wsV RX7 73 RX7 yX7_found wsX7_found) := goodIn_app (goodIn_sub (List.forall_mem_cons.mpr ⟨mx_X7_copy_21, List.forall_mem_cons.mpr ⟨mx_X7_copy_22, List.forall_mem_cons.mpr ⟨mx_X7_copy_23, List.forall_mem_cons.mpr ⟨mx_X7_copy_24, fun _ h_ => absurd h_ List.not_mem_nil⟩⟩⟩⟩) (by decide +kernel)) ggX7_copy_X7_found
theorem mx_X7_copy_40 : Cond.code yX7_foundNothing cX7_foundNothing 2 (some .int) ∈ wsX7_copy := mb_X7_copy_wsX7_copy_r2 (List.mem_of_getElem? (i := 15) rfl)
theorem ggX7_copy_X7_foundNothing : GoodIn wsX7_copy wsX7_foundNothing := goodIn_sub (by unfold wsX7_foundNothing; exact List.forall_mem_cons.mpr ⟨mx_X7_copy_40, List.forall_mem_append.mpr ⟨List.forall_mem_cons.mpr ⟨mx_X7_copy_26, fun _ h_ => absurd h_ List.not_mem_nil⟩, (fun _ h_ => mb_X7_copy_wsX70 h_)⟩⟩) (by decide +kernel)
theorem mx_X7_copy_37 : Cond.methodLink RX7 81 yX7_foundNothing ∈ wsX7_copy := mb_X7_copy_wsX7_copy_r2 (List.mem_of_getElem? (i := 12) rfl)
theorem mx_X7_copy_38 : Cond.instanceMethod yX7_foundNothing ∈ wsX7_copy := mb_X7_copy_wsX7_copy_r2 (List.mem_of_getElem? (i := 13) rfl)
theorem mx_X7_copy_39 : Cond.selects RX7 yX7_foundNothing yX7_foundNothing ∈ wsX7_copy := mb_X7_copy_wsX7_copy_r2 (List.mem_of_getElem? (i := 14) rfl)
theorem gX7_copy_X7_foundNothing : GoodIn wsX7_copy (wsV RX7 81 RX7 yX7_foundNothing wsX7_foundNothing) := goodIn_app (goodIn_sub (List.forall_mem_cons.mpr ⟨mx_X7_copy_37, List.forall_mem_cons.mpr ⟨mx_X7_copy_38, List.forall_mem_cons.mpr ⟨mx_X7_copy_39, List.forall_mem_cons.mpr ⟨mx_X7_copy_24, fun _ h_ => absurd h_ List.not_mem_nil⟩⟩⟩⟩) (by decide +kernel)) ggX7_copy_X7_foundNothing
theorem mb_X7_drop_wsX7_drop_r1 {w : Cond} (h : w ∈ wsX7_drop_r1) : w ∈ wsX7_drop := by unfold wsX7_drop; exact List.mem_cons_of_mem _ (List.mem_append_left _ (List.mem_append_left _ (List.mem_append_left _ (h))))
theorem mx_X7_drop_10 : Cond.code yX5_isMissing cX5_isMissing 2 (some .boolean) ∈ wsX7_drop := mb_X7_drop_wsX7_drop_r1 (List.mem_of_getElem? (i := 9) rfl)
theorem mx_X7_drop_11 : Cond.fieldLink RX5 16 "MillTalk$Rows" "lanes" "[I" ∈ wsX7_drop := mb_X7_drop_wsX7_drop_r1 (List.mem_of_getElem? (i := 10) rfl)
theorem mb_X7_drop_wsX50 {w : Cond} (h : w ∈ wsX50) : w ∈ wsX7_drop := by unfold wsX7_drop; exact List.mem_cons_of_mem _ (List.mem_append_right _ (h))
theorem ggX7_drop_X5_isMissing : GoodIn wsX7_drop wsX5_isMissing := goodIn_sub (by unfold wsX5_isMissing; exact List.forall_mem_cons.mpr ⟨mx_X7_drop_10, List.forall_mem_append.mpr ⟨List.forall_mem_cons.mpr ⟨mx_X7_drop_11, fun _ h_ => absurd h_ List.not_mem_nil⟩, (fun _ h_ => mb_X7_drop_wsX50 h_)⟩⟩) (by decide +kernel)
theorem mx_X7_drop_7 : Cond.methodLink RX7 99 yX5_isMissing ∈ wsX7_drop := mb_X7_drop_wsX7_drop_r1 (List.mem_of_getElem? (i := 6) rfl)
theorem mx_X7_drop_8 : Cond.instanceMethod yX5_isMissing ∈ wsX7_drop := mb_X7_drop_wsX7_drop_r1 (List.mem_of_getElem? (i := 7) rfl)
theorem mx_X7_drop_9 : Cond.selects RX5 yX5_isMissing yX5_isMissing ∈ wsX7_drop := mb_X7_drop_wsX7_drop_r1 (List.mem_of_getElem? (i := 8) rfl)
theorem mx_X7_drop_5 : Cond.initialized RX5 ∈ wsX7_drop := mb_X7_drop_wsX7_drop_r1 (List.mem_of_getElem? (i := 4) rfl)
theorem gX7_drop_X5_isMissing : GoodIn wsX7_drop (wsV RX7 99 RX5 yX5_isMissing wsX5_isMissing) := goodIn_app (goodIn_sub (List.forall_mem_cons.mpr ⟨mx_X7_drop_7, List.forall_mem_cons.mpr ⟨mx_X7_drop_8, List.forall_mem_cons.mpr ⟨mx_X7_drop_9, List.forall_mem_cons.mpr ⟨mx_X7_drop_5, fun _ h_ => absurd h_ List.not_mem_nil⟩⟩⟩⟩) (by decide +kernel)) ggX7_drop_X5_isMissing
theorem mx_X7_drop_6 : Cond.code yX5_isRow cX5_isRow 1 (some .boolean) ∈ wsX7_drop := mb_X7_drop_wsX7_drop_r1 (List.mem_of_getElem? (i := 5) rfl)
theorem ggX7_drop_X5_isRow : GoodIn wsX7_drop wsX5_isRow := goodIn_sub (by unfold wsX5_isRow; exact List.forall_mem_cons.mpr ⟨mx_X7_drop_6, fun _ h_ => absurd h_ List.not_mem_nil⟩) (by decide +kernel)
set_option maxRecDepth 20000 in
theorem gX7_drop_X5_isRow : GoodIn wsX7_drop (va_wsS RX7 65 yX5_isRow wsX5_isRow) := goodIn_app (goodIn_of _ (by decide +kernel)) ggX7_drop_X5_isRow
theorem mx_X7_drop_22 : Cond.code yX5_remove cX5_remove 2 (some .int) ∈ wsX7_drop := mb_X7_drop_wsX7_drop_r1 (List.mem_of_getElem? (i := 21) rfl)
theorem mx_X7_drop_23 : Cond.fieldLink RX5 20 "MillTalk$Rows" "lengths" "[I" ∈ wsX7_drop := mb_X7_drop_wsX7_drop_r1 (List.mem_of_getElem? (i := 22) rfl)
theorem ggX7_drop_X5_remove : GoodIn wsX7_drop wsX5_remove := goodIn_sub (by unfold wsX5_remove; exact List.forall_mem_cons.mpr ⟨mx_X7_drop_22, List.forall_mem_append.mpr ⟨List.forall_mem_cons.mpr ⟨mx_X7_drop_11, List.forall_mem_cons.mpr ⟨mx_X7_drop_23, fun _ h_ => absurd h_ List.not_mem_nil⟩⟩, (fun _ h_ => mb_X7_drop_wsX50 h_)⟩⟩) (by decide +kernel)
theorem mx_X7_drop_19 : Cond.methodLink RX7 102 yX5_remove ∈ wsX7_drop := mb_X7_drop_wsX7_drop_r1 (List.mem_of_getElem? (i := 18) rfl)
theorem mx_X7_drop_20 : Cond.instanceMethod yX5_remove ∈ wsX7_drop := mb_X7_drop_wsX7_drop_r1 (List.mem_of_getElem? (i := 19) rfl)
theorem mx_X7_drop_21 : Cond.selects RX5 yX5_remove yX5_remove ∈ wsX7_drop := mb_X7_drop_wsX7_drop_r1 (List.mem_of_getElem? (i := 20) rfl)
theorem gX7_drop_X5_remove : GoodIn wsX7_drop (wsV RX7 102 RX5 yX5_remove wsX5_remove) := goodIn_app (goodIn_sub (List.forall_mem_cons.mpr ⟨mx_X7_drop_19, List.forall_mem_cons.mpr ⟨mx_X7_drop_20, List.forall_mem_cons.mpr ⟨mx_X7_drop_21, List.forall_mem_cons.mpr ⟨mx_X7_drop_5, fun _ h_ => absurd h_ List.not_mem_nil⟩⟩⟩⟩) (by decide +kernel)) ggX7_drop_X5_remove
theorem mx_X7_drop_16 : Cond.code yX7_found cX7_found 2 (some .int) ∈ wsX7_drop := mb_X7_drop_wsX7_drop_r1 (List.mem_of_getElem? (i := 15) rfl)
theorem mx_X7_drop_17 : Cond.fieldLink RX7 323 "MillTalk" "latestFinding" "I" ∈ wsX7_drop := mb_X7_drop_wsX7_drop_r1 (List.mem_of_getElem? (i := 16) rfl)
theorem mx_X7_drop_18 : Cond.constant RX7 326 (-1000010) ∈ wsX7_drop := mb_X7_drop_wsX7_drop_r1 (List.mem_of_getElem? (i := 17) rfl)
theorem mb_X7_drop_wsX70 {w : Cond} (h : w ∈ wsX70) : w ∈ wsX7_drop := by unfold wsX7_drop; exact List.mem_cons_of_mem _ (List.mem_append_left _ (List.mem_append_right _ (h)))
theorem ggX7_drop_X7_found : GoodIn wsX7_drop wsX7_found := goodIn_sub (by unfold wsX7_found; exact List.forall_mem_cons.mpr ⟨mx_X7_drop_16, List.forall_mem_append.mpr ⟨List.forall_mem_cons.mpr ⟨mx_X7_drop_17, List.forall_mem_cons.mpr ⟨mx_X7_drop_18, fun _ h_ => absurd h_ List.not_mem_nil⟩⟩, (fun _ h_ => mb_X7_drop_wsX70 h_)⟩⟩) (by decide +kernel)
theorem mx_X7_drop_12 : Cond.methodLink RX7 73 yX7_found ∈ wsX7_drop := mb_X7_drop_wsX7_drop_r1 (List.mem_of_getElem? (i := 11) rfl)
theorem mx_X7_drop_13 : Cond.instanceMethod yX7_found ∈ wsX7_drop := mb_X7_drop_wsX7_drop_r1 (List.mem_of_getElem? (i := 12) rfl)
theorem mx_X7_drop_14 : Cond.selects RX7 yX7_found yX7_found ∈ wsX7_drop := mb_X7_drop_wsX7_drop_r1 (List.mem_of_getElem? (i := 13) rfl)
theorem mx_X7_drop_15 : Cond.initialized RX7 ∈ wsX7_drop := mb_X7_drop_wsX7_drop_r1 (List.mem_of_getElem? (i := 14) rfl)
theorem gX7_drop_X7_found : GoodIn wsX7_drop (wsV RX7 73 RX7 yX7_found wsX7_found) := goodIn_app (goodIn_sub (List.forall_mem_cons.mpr ⟨mx_X7_drop_12, List.forall_mem_cons.mpr ⟨mx_X7_drop_13, List.forall_mem_cons.mpr ⟨mx_X7_drop_14, List.forall_mem_cons.mpr ⟨mx_X7_drop_15, fun _ h_ => absurd h_ List.not_mem_nil⟩⟩⟩⟩) (by decide +kernel)) ggX7_drop_X7_found
theorem mb_X7_drop_wsX7_drop_r2 {w : Cond} (h : w ∈ wsX7_drop_r2) : w ∈ wsX7_drop := by unfold wsX7_drop; exact List.mem_cons_of_mem _ (List.mem_append_left _ (List.mem_append_left _ (List.mem_append_right _ (h))))
theorem mx_X7_drop_27 : Cond.code yX7_foundNothing cX7_foundNothing 2 (some .int) ∈ wsX7_drop := mb_X7_drop_wsX7_drop_r2 (List.mem_of_getElem? (i := 2) rfl)
theorem ggX7_drop_X7_foundNothing : GoodIn wsX7_drop wsX7_foundNothing := goodIn_sub (by unfold wsX7_foundNothing; exact List.forall_mem_cons.mpr ⟨mx_X7_drop_27, List.forall_mem_append.mpr ⟨List.forall_mem_cons.mpr ⟨mx_X7_drop_17, fun _ h_ => absurd h_ List.not_mem_nil⟩, (fun _ h_ => mb_X7_drop_wsX70 h_)⟩⟩) (by decide +kernel)
theorem mx_X7_drop_24 : Cond.methodLink RX7 81 yX7_foundNothing ∈ wsX7_drop := mb_X7_drop_wsX7_drop_r1 (List.mem_of_getElem? (i := 23) rfl)
theorem mx_X7_drop_25 : Cond.instanceMethod yX7_foundNothing ∈ wsX7_drop := mb_X7_drop_wsX7_drop_r2 (List.mem_of_getElem? (i := 0) rfl)
theorem mx_X7_drop_26 : Cond.selects RX7 yX7_foundNothing yX7_foundNothing ∈ wsX7_drop := mb_X7_drop_wsX7_drop_r2 (List.mem_of_getElem? (i := 1) rfl)
theorem gX7_drop_X7_foundNothing : GoodIn wsX7_drop (wsV RX7 81 RX7 yX7_foundNothing wsX7_foundNothing) := goodIn_app (goodIn_sub (List.forall_mem_cons.mpr ⟨mx_X7_drop_24, List.forall_mem_cons.mpr ⟨mx_X7_drop_25, List.forall_mem_cons.mpr ⟨mx_X7_drop_26, List.forall_mem_cons.mpr ⟨mx_X7_drop_15, fun _ h_ => absurd h_ List.not_mem_nil⟩⟩⟩⟩) (by decide +kernel)) ggX7_drop_X7_foundNothing
theorem mx_X7_feed_13 : Cond.code yX6_append cX6_append 2 (some .int) ∈ wsX7_feed := by unfold wsX7_feed; exact List.mem_cons_of_mem _ (List.mem_append_left _ (List.mem_append_left _ (List.mem_of_getElem? (i := 12) rfl)))
theorem mx_X7_feed_14 : Cond.fieldLink RX6 11 "MillTalk$Tape" "bytes" "[I" ∈ wsX7_feed := by unfold wsX7_feed; exact List.mem_cons_of_mem _ (List.mem_append_left _ (List.mem_append_left _ (List.mem_of_getElem? (i := 13) rfl)))
theorem mx_X7_feed_9 : Cond.fieldLink RX6 22 "MillTalk$Tape" "size" "I" ∈ wsX7_feed := by unfold wsX7_feed; exact List.mem_cons_of_mem _ (List.mem_append_left _ (List.mem_append_left _ (List.mem_of_getElem? (i := 8) rfl)))
theorem mx_X7_feed_15 : Cond.methodLink RX6 26 yX6_isFull ∈ wsX7_feed := by unfold wsX7_feed; exact List.mem_cons_of_mem _ (List.mem_append_left _ (List.mem_append_left _ (List.mem_of_getElem? (i := 14) rfl)))
theorem mx_X7_feed_5 : Cond.instanceMethod yX6_isFull ∈ wsX7_feed := by unfold wsX7_feed; exact List.mem_cons_of_mem _ (List.mem_append_left _ (List.mem_append_left _ (List.mem_of_getElem? (i := 4) rfl)))
theorem mx_X7_feed_6 : Cond.selects RX6 yX6_isFull yX6_isFull ∈ wsX7_feed := by unfold wsX7_feed; exact List.mem_cons_of_mem _ (List.mem_append_left _ (List.mem_append_left _ (List.mem_of_getElem? (i := 5) rfl)))
theorem mx_X7_feed_7 : Cond.initialized RX6 ∈ wsX7_feed := by unfold wsX7_feed; exact List.mem_cons_of_mem _ (List.mem_append_left _ (List.mem_append_left _ (List.mem_of_getElem? (i := 6) rfl)))
theorem mx_X7_feed_8 : Cond.code yX6_isFull cX6_isFull 1 (some .boolean) ∈ wsX7_feed := by unfold wsX7_feed; exact List.mem_cons_of_mem _ (List.mem_append_left _ (List.mem_append_left _ (List.mem_of_getElem? (i := 7) rfl)))
theorem mb_X7_feed_wsX60 {w : Cond} (h : w ∈ wsX60) : w ∈ wsX7_feed := by unfold wsX7_feed; exact List.mem_cons_of_mem _ (List.mem_append_right _ (h))
theorem ggX7_feed_X6_append : GoodIn wsX7_feed wsX6_append := goodIn_sub (by unfold wsX6_append; exact List.forall_mem_cons.mpr ⟨mx_X7_feed_13, List.forall_mem_append.mpr ⟨List.forall_mem_cons.mpr ⟨mx_X7_feed_14, List.forall_mem_cons.mpr ⟨mx_X7_feed_9, List.forall_mem_cons.mpr ⟨mx_X7_feed_15, List.forall_mem_cons.mpr ⟨mx_X7_feed_5, List.forall_mem_cons.mpr ⟨mx_X7_feed_6, List.forall_mem_cons.mpr ⟨mx_X7_feed_7, List.forall_mem_cons.mpr ⟨mx_X7_feed_8, fun _ h_ => absurd h_ List.not_mem_nil⟩⟩⟩⟩⟩⟩⟩, (fun _ h_ => mb_X7_feed_wsX60 h_)⟩⟩) (by decide +kernel)
theorem mx_X7_feed_10 : Cond.methodLink RX7 110 yX6_append ∈ wsX7_feed := by unfold wsX7_feed; exact List.mem_cons_of_mem _ (List.mem_append_left _ (List.mem_append_left _ (List.mem_of_getElem? (i := 9) rfl)))
theorem mx_X7_feed_11 : Cond.instanceMethod yX6_append ∈ wsX7_feed := by unfold wsX7_feed; exact List.mem_cons_of_mem _ (List.mem_append_left _ (List.mem_append_left _ (List.mem_of_getElem? (i := 10) rfl)))
theorem mx_X7_feed_12 : Cond.selects RX6 yX6_append yX6_append ∈ wsX7_feed := by unfold wsX7_feed; exact List.mem_cons_of_mem _ (List.mem_append_left _ (List.mem_append_left _ (List.mem_of_getElem? (i := 11) rfl)))
theorem gX7_feed_X6_append : GoodIn wsX7_feed (wsV RX7 110 RX6 yX6_append wsX6_append) := goodIn_app (goodIn_sub (List.forall_mem_cons.mpr ⟨mx_X7_feed_10, List.forall_mem_cons.mpr ⟨mx_X7_feed_11, List.forall_mem_cons.mpr ⟨mx_X7_feed_12, List.forall_mem_cons.mpr ⟨mx_X7_feed_7, fun _ h_ => absurd h_ List.not_mem_nil⟩⟩⟩⟩) (by decide +kernel)) ggX7_feed_X6_append
theorem ggX7_feed_X6_isFull : GoodIn wsX7_feed wsX6_isFull := goodIn_sub (by unfold wsX6_isFull; exact List.forall_mem_cons.mpr ⟨mx_X7_feed_8, List.forall_mem_append.mpr ⟨List.forall_mem_cons.mpr ⟨mx_X7_feed_9, fun _ h_ => absurd h_ List.not_mem_nil⟩, (fun _ h_ => mb_X7_feed_wsX60 h_)⟩⟩) (by decide +kernel)
theorem mx_X7_feed_4 : Cond.methodLink RX7 105 yX6_isFull ∈ wsX7_feed := by unfold wsX7_feed; exact List.mem_cons_of_mem _ (List.mem_append_left _ (List.mem_append_left _ (List.mem_of_getElem? (i := 3) rfl)))
theorem gX7_feed_X6_isFull : GoodIn wsX7_feed (wsV RX7 105 RX6 yX6_isFull wsX6_isFull) := goodIn_app (goodIn_sub (List.forall_mem_cons.mpr ⟨mx_X7_feed_4, List.forall_mem_cons.mpr ⟨mx_X7_feed_5, List.forall_mem_cons.mpr ⟨mx_X7_feed_6, List.forall_mem_cons.mpr ⟨mx_X7_feed_7, fun _ h_ => absurd h_ List.not_mem_nil⟩⟩⟩⟩) (by decide +kernel)) ggX7_feed_X6_isFull
theorem mb_X7_had_wsX7_had_r1 {w : Cond} (h : w ∈ wsX7_had_r1) : w ∈ wsX7_had := by unfold wsX7_had; exact List.mem_cons_of_mem _ (List.mem_append_left _ (List.mem_append_left _ (List.mem_append_left _ (List.mem_append_left _ (h)))))
theorem mx_X7_had_18 : Cond.code yX2_isLength cX2_isLength 1 (some .boolean) ∈ wsX7_had := mb_X7_had_wsX7_had_r1 (List.mem_of_getElem? (i := 17) rfl)
theorem ggX7_had_X2_isLength : GoodIn wsX7_had wsX2_isLength := goodIn_sub (by unfold wsX2_isLength; exact List.forall_mem_cons.mpr ⟨mx_X7_had_18, fun _ h_ => absurd h_ List.not_mem_nil⟩) (by decide +kernel)
set_option maxRecDepth 20000 in
theorem gX7_had_X2_isLength : GoodIn wsX7_had (va_wsS RX7 221 yX2_isLength wsX2_isLength) := goodIn_app (goodIn_of _ (by decide +kernel)) ggX7_had_X2_isLength
theorem mx_X7_had_22 : Cond.code yX2_search cX2_search 4 none ∈ wsX7_had := mb_X7_had_wsX7_had_r1 (List.mem_of_getElem? (i := 21) rfl)
theorem mx_X7_had_23 : Cond.fieldLink RX2 18 "MillTalk$CapSearch" "hours" "I" ∈ wsX7_had := mb_X7_had_wsX7_had_r1 (List.mem_of_getElem? (i := 22) rfl)
theorem mx_X7_had_24 : Cond.fieldLink RX2 22 "MillTalk$CapSearch" "wanted" "I" ∈ wsX7_had := mb_X7_had_wsX7_had_r1 (List.mem_of_getElem? (i := 23) rfl)
theorem mb_X7_had_wsX7_had_r2 {w : Cond} (h : w ∈ wsX7_had_r2) : w ∈ wsX7_had := by unfold wsX7_had; exact List.mem_cons_of_mem _ (List.mem_append_left _ (List.mem_append_left _ (List.mem_append_left _ (List.mem_append_right _ (List.mem_append_left _ (h))))))
theorem mx_X7_had_25 : Cond.fieldLink RX2 25 "MillTalk$CapSearch" "bestRow" "I" ∈ wsX7_had := mb_X7_had_wsX7_had_r2 (List.mem_of_getElem? (i := 0) rfl)
theorem mx_X7_had_26 : Cond.fieldLink RX2 28 "MillTalk$CapSearch" "bestWorth" "I" ∈ wsX7_had := mb_X7_had_wsX7_had_r2 (List.mem_of_getElem? (i := 1) rfl)
theorem mx_X7_had_27 : Cond.fieldLink RX2 31 "MillTalk$CapSearch" "bestTurns" "I" ∈ wsX7_had := mb_X7_had_wsX7_had_r2 (List.mem_of_getElem? (i := 2) rfl)
theorem mx_X7_had_28 : Cond.fieldLink RX2 13 "MillTalk$CapSearch" "behind" "[LMillTalk$Level;" ∈ wsX7_had := mb_X7_had_wsX7_had_r2 (List.mem_of_getElem? (i := 3) rfl)
theorem mx_X7_had_29 : Cond.methodLink RX2 34 yX3_becomeLike ∈ wsX7_had := mb_X7_had_wsX7_had_r2 (List.mem_of_getElem? (i := 4) rfl)
theorem mx_X7_had_30 : Cond.instanceMethod yX3_becomeLike ∈ wsX7_had := mb_X7_had_wsX7_had_r2 (List.mem_of_getElem? (i := 5) rfl)
theorem mx_X7_had_31 : Cond.selects RX3 yX3_becomeLike yX3_becomeLike ∈ wsX7_had := mb_X7_had_wsX7_had_r2 (List.mem_of_getElem? (i := 6) rfl)
theorem mx_X7_had_12 : Cond.initialized RX3 ∈ wsX7_had := mb_X7_had_wsX7_had_r1 (List.mem_of_getElem? (i := 11) rfl)
theorem mx_X7_had_32 : Cond.code yX3_becomeLike cX3_becomeLike 2 none ∈ wsX7_had := mb_X7_had_wsX7_had_r2 (List.mem_of_getElem? (i := 7) rfl)
theorem mx_X7_had_14 : Cond.fieldLink RX3 27 "MillTalk$Level" "cells" "I" ∈ wsX7_had := mb_X7_had_wsX7_had_r1 (List.mem_of_getElem? (i := 13) rfl)
theorem mx_X7_had_33 : Cond.fieldLink RX3 31 "MillTalk$Level" "mill" "I" ∈ wsX7_had := mb_X7_had_wsX7_had_r2 (List.mem_of_getElem? (i := 8) rfl)
theorem mx_X7_had_34 : Cond.fieldLink RX3 34 "MillTalk$Level" "reach" "I" ∈ wsX7_had := mb_X7_had_wsX7_had_r2 (List.mem_of_getElem? (i := 9) rfl)
theorem mx_X7_had_35 : Cond.fieldLink RX3 37 "MillTalk$Level" "cap" "I" ∈ wsX7_had := mb_X7_had_wsX7_had_r2 (List.mem_of_getElem? (i := 10) rfl)
theorem mx_X7_had_36 : Cond.fieldLink RX3 40 "MillTalk$Level" "hour" "I" ∈ wsX7_had := mb_X7_had_wsX7_had_r2 (List.mem_of_getElem? (i := 11) rfl)
theorem mx_X7_had_37 : Cond.fieldLink RX3 43 "MillTalk$Level" "meal" "I" ∈ wsX7_had := mb_X7_had_wsX7_had_r2 (List.mem_of_getElem? (i := 12) rfl)
theorem mx_X7_had_38 : Cond.fieldLink RX3 46 "MillTalk$Level" "windCount" "I" ∈ wsX7_had := mb_X7_had_wsX7_had_r2 (List.mem_of_getElem? (i := 13) rfl)
theorem mx_X7_had_39 : Cond.fieldLink RX3 49 "MillTalk$Level" "soundCount" "I" ∈ wsX7_had := mb_X7_had_wsX7_had_r2 (List.mem_of_getElem? (i := 14) rfl)
theorem mx_X7_had_40 : Cond.fieldLink RX3 9 "MillTalk$Level" "winds" "[I" ∈ wsX7_had := mb_X7_had_wsX7_had_r2 (List.mem_of_getElem? (i := 15) rfl)
theorem mx_X7_had_41 : Cond.methodLink RX3 52 arraycopyName ∈ wsX7_had := mb_X7_had_wsX7_had_r2 (List.mem_of_getElem? (i := 16) rfl)
theorem mx_X7_had_42 : Cond.native arraycopyName ∈ wsX7_had := mb_X7_had_wsX7_had_r2 (List.mem_of_getElem? (i := 17) rfl)
theorem mx_X7_had_43 : Cond.static arraycopyName ∈ wsX7_had := mb_X7_had_wsX7_had_r2 (List.mem_of_getElem? (i := 18) rfl)
theorem mx_X7_had_44 : Cond.initialized "java/lang/System" ∈ wsX7_had := mb_X7_had_wsX7_had_r2 (List.mem_of_getElem? (i := 19) rfl)
theorem mx_X7_had_45 : Cond.fieldLink RX3 15 "MillTalk$Level" "kinds" "[I" ∈ wsX7_had := mb_X7_had_wsX7_had_r2 (List.mem_of_getElem? (i := 20) rfl)
theorem mx_X7_had_46 : Cond.fieldLink RX3 18 "MillTalk$Level" "places" "[I" ∈ wsX7_had := mb_X7_had_wsX7_had_r2 (List.mem_of_getElem? (i := 21) rfl)
theorem mx_X7_had_47 : Cond.fieldLink RX3 21 "MillTalk$Level" "louds" "[I" ∈ wsX7_had := mb_X7_had_wsX7_had_r2 (List.mem_of_getElem? (i := 22) rfl)
theorem mx_X7_had_48 : Cond.fieldLink RX3 24 "MillTalk$Level" "hows" "[I" ∈ wsX7_had := mb_X7_had_wsX7_had_r2 (List.mem_of_getElem? (i := 23) rfl)
theorem mb_X7_had_wsX7_had_r3 {w : Cond} (h : w ∈ wsX7_had_r3) : w ∈ wsX7_had := by unfold wsX7_had; exact List.mem_cons_of_mem _ (List.mem_append_left _ (List.mem_append_left _ (List.mem_append_left _ (List.mem_append_right _ (List.mem_append_right _ (List.mem_append_left _ (h)))))))
theorem mx_X7_had_49 : Cond.methodLink RX2 38 yX2_tryRows ∈ wsX7_had := mb_X7_had_wsX7_had_r3 (List.mem_of_getElem? (i := 0) rfl)
theorem mx_X7_had_50 : Cond.instanceMethod yX2_tryRows ∈ wsX7_had := mb_X7_had_wsX7_had_r3 (List.mem_of_getElem? (i := 1) rfl)
theorem mx_X7_had_51 : Cond.selects RX2 yX2_tryRows yX2_tryRows ∈ wsX7_had := mb_X7_had_wsX7_had_r3 (List.mem_of_getElem? (i := 2) rfl)
theorem mx_X7_had_17 : Cond.initialized RX2 ∈ wsX7_had := mb_X7_had_wsX7_had_r1 (List.mem_of_getElem? (i := 16) rfl)
theorem mx_X7_had_52 : Cond.code yX2_tryRows cX2_tryRows 7 none ∈ wsX7_had := mb_X7_had_wsX7_had_r3 (List.mem_of_getElem? (i := 3) rfl)
theorem mx_X7_had_53 : Cond.fieldLink RX2 46 "MillTalk$Level" "cap" "I" ∈ wsX7_had := mb_X7_had_wsX7_had_r3 (List.mem_of_getElem? (i := 4) rfl)
theorem mx_X7_had_54 : Cond.methodLink RX2 42 yX2_judge ∈ wsX7_had := mb_X7_had_wsX7_had_r3 (List.mem_of_getElem? (i := 5) rfl)
theorem mx_X7_had_55 : Cond.instanceMethod yX2_judge ∈ wsX7_had := mb_X7_had_wsX7_had_r3 (List.mem_of_getElem? (i := 6) rfl)
theorem mx_X7_had_56 : Cond.selects RX2 yX2_judge yX2_judge ∈ wsX7_had := mb_X7_had_wsX7_had_r3 (List.mem_of_getElem? (i := 7) rfl)
theorem mx_X7_had_57 : Cond.code yX2_judge cX2_judge 5 none ∈ wsX7_had := mb_X7_had_wsX7_had_r3 (List.mem_of_getElem? (i := 8) rfl)
theorem mx_X7_had_58 : Cond.methodLink RX2 52 yX2_worthOf ∈ wsX7_had := mb_X7_had_wsX7_had_r3 (List.mem_of_getElem? (i := 9) rfl)
theorem mx_X7_had_59 : Cond.instanceMethod yX2_worthOf ∈ wsX7_had := mb_X7_had_wsX7_had_r3 (List.mem_of_getElem? (i := 10) rfl)
theorem mx_X7_had_60 : Cond.selects RX2 yX2_worthOf yX2_worthOf ∈ wsX7_had := mb_X7_had_wsX7_had_r3 (List.mem_of_getElem? (i := 11) rfl)
theorem mx_X7_had_61 : Cond.code yX2_worthOf cX2_worthOf 2 (some .int) ∈ wsX7_had := mb_X7_had_wsX7_had_r3 (List.mem_of_getElem? (i := 12) rfl)
theorem mx_X7_had_62 : Cond.fieldLink RX2 56 "MillTalk$Level" "meal" "I" ∈ wsX7_had := mb_X7_had_wsX7_had_r3 (List.mem_of_getElem? (i := 13) rfl)
theorem mx_X7_had_63 : Cond.methodLink RX2 59 yX3_soundsThatAre ∈ wsX7_had := mb_X7_had_wsX7_had_r3 (List.mem_of_getElem? (i := 14) rfl)
theorem mx_X7_had_64 : Cond.instanceMethod yX3_soundsThatAre ∈ wsX7_had := mb_X7_had_wsX7_had_r3 (List.mem_of_getElem? (i := 15) rfl)
theorem mx_X7_had_65 : Cond.selects RX3 yX3_soundsThatAre yX3_soundsThatAre ∈ wsX7_had := mb_X7_had_wsX7_had_r3 (List.mem_of_getElem? (i := 16) rfl)
theorem mx_X7_had_66 : Cond.code yX3_soundsThatAre cX3_soundsThatAre 4 (some .int) ∈ wsX7_had := mb_X7_had_wsX7_had_r3 (List.mem_of_getElem? (i := 17) rfl)
theorem mx_X7_had_67 : Cond.methodLink RX2 49 yX3_pass ∈ wsX7_had := mb_X7_had_wsX7_had_r3 (List.mem_of_getElem? (i := 18) rfl)
theorem mx_X7_had_68 : Cond.instanceMethod yX3_pass ∈ wsX7_had := mb_X7_had_wsX7_had_r3 (List.mem_of_getElem? (i := 19) rfl)
theorem mx_X7_had_69 : Cond.selects RX3 yX3_pass yX3_pass ∈ wsX7_had := mb_X7_had_wsX7_had_r3 (List.mem_of_getElem? (i := 20) rfl)
theorem mx_X7_had_70 : Cond.code yX3_pass cX3_pass 3 none ∈ wsX7_had := mb_X7_had_wsX7_had_r3 (List.mem_of_getElem? (i := 21) rfl)
theorem mx_X7_had_71 : Cond.methodLink RX3 87 yX3_windOn ∈ wsX7_had := mb_X7_had_wsX7_had_r3 (List.mem_of_getElem? (i := 22) rfl)
theorem mx_X7_had_72 : Cond.instanceMethod yX3_windOn ∈ wsX7_had := mb_X7_had_wsX7_had_r3 (List.mem_of_getElem? (i := 23) rfl)
theorem mb_X7_had_wsX7_had_r4 {w : Cond} (h : w ∈ wsX7_had_r4) : w ∈ wsX7_had := by unfold wsX7_had; exact List.mem_cons_of_mem _ (List.mem_append_left _ (List.mem_append_left _ (List.mem_append_left _ (List.mem_append_right _ (List.mem_append_right _ (List.mem_append_right _ (List.mem_append_left _ (h))))))))
theorem mx_X7_had_73 : Cond.selects RX3 yX3_windOn yX3_windOn ∈ wsX7_had := mb_X7_had_wsX7_had_r4 (List.mem_of_getElem? (i := 0) rfl)
theorem mx_X7_had_74 : Cond.code yX3_windOn cX3_windOn 2 (some .int) ∈ wsX7_had := mb_X7_had_wsX7_had_r4 (List.mem_of_getElem? (i := 1) rfl)
theorem mx_X7_had_75 : Cond.methodLink RX3 90 yX3_passSound ∈ wsX7_had := mb_X7_had_wsX7_had_r4 (List.mem_of_getElem? (i := 2) rfl)
theorem mx_X7_had_76 : Cond.instanceMethod yX3_passSound ∈ wsX7_had := mb_X7_had_wsX7_had_r4 (List.mem_of_getElem? (i := 3) rfl)
theorem mx_X7_had_77 : Cond.selects RX3 yX3_passSound yX3_passSound ∈ wsX7_had := mb_X7_had_wsX7_had_r4 (List.mem_of_getElem? (i := 4) rfl)
theorem mx_X7_had_78 : Cond.code yX3_passSound cX3_passSound 5 none ∈ wsX7_had := mb_X7_had_wsX7_had_r4 (List.mem_of_getElem? (i := 5) rfl)
theorem mx_X7_had_79 : Cond.methodLink RX3 63 Lib.Math.min.name ∈ wsX7_had := mb_X7_had_wsX7_had_r4 (List.mem_of_getElem? (i := 6) rfl)
theorem mx_X7_had_80 : Cond.static Lib.Math.min.name ∈ wsX7_had := mb_X7_had_wsX7_had_r4 (List.mem_of_getElem? (i := 7) rfl)
theorem mx_X7_had_81 : Cond.initialized "java/lang/Math" ∈ wsX7_had := mb_X7_had_wsX7_had_r4 (List.mem_of_getElem? (i := 8) rfl)
theorem mx_X7_had_82 : Cond.code Lib.Math.min.name Lib.Math.min.code 2 (some .int) ∈ wsX7_had := mb_X7_had_wsX7_had_r4 (List.mem_of_getElem? (i := 9) rfl)
theorem mx_X7_had_83 : Cond.methodLink RX3 58 yX3_isLoose ∈ wsX7_had := mb_X7_had_wsX7_had_r4 (List.mem_of_getElem? (i := 10) rfl)
theorem mx_X7_had_84 : Cond.instanceMethod yX3_isLoose ∈ wsX7_had := mb_X7_had_wsX7_had_r4 (List.mem_of_getElem? (i := 11) rfl)
theorem mx_X7_had_85 : Cond.selects RX3 yX3_isLoose yX3_isLoose ∈ wsX7_had := mb_X7_had_wsX7_had_r4 (List.mem_of_getElem? (i := 12) rfl)
theorem mx_X7_had_86 : Cond.code yX3_isLoose cX3_isLoose 2 (some .boolean) ∈ wsX7_had := mb_X7_had_wsX7_had_r4 (List.mem_of_getElem? (i := 13) rfl)
theorem mx_X7_had_87 : Cond.methodLink RX3 69 yX3_driftOf ∈ wsX7_had := mb_X7_had_wsX7_had_r4 (List.mem_of_getElem? (i := 14) rfl)
theorem mx_X7_had_88 : Cond.instanceMethod yX3_driftOf ∈ wsX7_had := mb_X7_had_wsX7_had_r4 (List.mem_of_getElem? (i := 15) rfl)
theorem mx_X7_had_89 : Cond.selects RX3 yX3_driftOf yX3_driftOf ∈ wsX7_had := mb_X7_had_wsX7_had_r4 (List.mem_of_getElem? (i := 16) rfl)
theorem mx_X7_had_90 : Cond.code yX3_driftOf cX3_driftOf 4 (some .int) ∈ wsX7_had := mb_X7_had_wsX7_had_r4 (List.mem_of_getElem? (i := 17) rfl)
theorem mx_X7_had_91 : Cond.methodLink RX3 72 yX3_loudBehindHour ∈ wsX7_had := mb_X7_had_wsX7_had_r4 (List.mem_of_getElem? (i := 18) rfl)
theorem mx_X7_had_92 : Cond.instanceMethod yX3_loudBehindHour ∈ wsX7_had := mb_X7_had_wsX7_had_r4 (List.mem_of_getElem? (i := 19) rfl)
theorem mx_X7_had_93 : Cond.selects RX3 yX3_loudBehindHour yX3_loudBehindHour ∈ wsX7_had := mb_X7_had_wsX7_had_r4 (List.mem_of_getElem? (i := 20) rfl)
theorem mx_X7_had_94 : Cond.code yX3_loudBehindHour cX3_loudBehindHour 2 (some .int) ∈ wsX7_had := mb_X7_had_wsX7_had_r4 (List.mem_of_getElem? (i := 21) rfl)
theorem mx_X7_had_95 : Cond.methodLink RX3 76 yX3_hasCell ∈ wsX7_had := mb_X7_had_wsX7_had_r4 (List.mem_of_getElem? (i := 22) rfl)
theorem mx_X7_had_96 : Cond.instanceMethod yX3_hasCell ∈ wsX7_had := mb_X7_had_wsX7_had_r4 (List.mem_of_getElem? (i := 23) rfl)
theorem mb_X7_had_wsX7_had_r5 {w : Cond} (h : w ∈ wsX7_had_r5) : w ∈ wsX7_had := by unfold wsX7_had; exact List.mem_cons_of_mem _ (List.mem_append_left _ (List.mem_append_left _ (List.mem_append_left _ (List.mem_append_right _ (List.mem_append_right _ (List.mem_append_right _ (List.mem_append_right _ (h))))))))
theorem mx_X7_had_97 : Cond.selects RX3 yX3_hasCell yX3_hasCell ∈ wsX7_had := mb_X7_had_wsX7_had_r5 (List.mem_of_getElem? (i := 0) rfl)
theorem mx_X7_had_98 : Cond.code yX3_hasCell cX3_hasCell 2 (some .boolean) ∈ wsX7_had := mb_X7_had_wsX7_had_r5 (List.mem_of_getElem? (i := 1) rfl)
theorem mx_X7_had_99 : Cond.methodLink RX3 79 yX3_letLoose ∈ wsX7_had := mb_X7_had_wsX7_had_r5 (List.mem_of_getElem? (i := 2) rfl)
theorem mx_X7_had_100 : Cond.instanceMethod yX3_letLoose ∈ wsX7_had := mb_X7_had_wsX7_had_r5 (List.mem_of_getElem? (i := 3) rfl)
theorem mx_X7_had_101 : Cond.selects RX3 yX3_letLoose yX3_letLoose ∈ wsX7_had := mb_X7_had_wsX7_had_r5 (List.mem_of_getElem? (i := 4) rfl)
theorem mx_X7_had_102 : Cond.code yX3_letLoose cX3_letLoose 4 none ∈ wsX7_had := mb_X7_had_wsX7_had_r5 (List.mem_of_getElem? (i := 5) rfl)
theorem mx_X7_had_103 : Cond.methodLink RX3 83 yX3_grindsAt ∈ wsX7_had := mb_X7_had_wsX7_had_r5 (List.mem_of_getElem? (i := 6) rfl)
theorem mx_X7_had_104 : Cond.instanceMethod yX3_grindsAt ∈ wsX7_had := mb_X7_had_wsX7_had_r5 (List.mem_of_getElem? (i := 7) rfl)
theorem mx_X7_had_105 : Cond.selects RX3 yX3_grindsAt yX3_grindsAt ∈ wsX7_had := mb_X7_had_wsX7_had_r5 (List.mem_of_getElem? (i := 8) rfl)
theorem mx_X7_had_106 : Cond.code yX3_grindsAt cX3_grindsAt 4 (some .boolean) ∈ wsX7_had := mb_X7_had_wsX7_had_r5 (List.mem_of_getElem? (i := 9) rfl)
theorem mb_X7_had_wsX20 {w : Cond} (h : w ∈ wsX20) : w ∈ wsX7_had := by unfold wsX7_had; exact List.mem_cons_of_mem _ (List.mem_append_right _ (h))
theorem mb_X7_had_wsX30 {w : Cond} (h : w ∈ wsX30) : w ∈ wsX7_had := by unfold wsX7_had; exact List.mem_cons_of_mem _ (List.mem_append_left _ (List.mem_append_right _ (h)))
theorem ggX7_had_X2_search : GoodIn wsX7_had wsX2_search := goodIn_sub (by unfold wsX2_search; exact List.forall_mem_cons.mpr ⟨mx_X7_had_22, List.forall_mem_append.mpr ⟨List.forall_mem_append.mpr ⟨List.forall_mem_append.mpr ⟨(by unfold wsX2_search_r1; exact List.forall_mem_cons.mpr ⟨mx_X7_had_23, List.forall_mem_cons.mpr ⟨mx_X7_had_24, List.forall_mem_cons.mpr ⟨mx_X7_had_25, List.forall_mem_cons.mpr ⟨mx_X7_had_26, List.forall_mem_cons.mpr ⟨mx_X7_had_27, List.forall_mem_cons.mpr ⟨mx_X7_had_28, List.forall_mem_cons.mpr ⟨mx_X7_had_29, List.forall_mem_cons.mpr ⟨mx_X7_had_30, List.forall_mem_cons.mpr ⟨mx_X7_had_31, List.forall_mem_cons.mpr ⟨mx_X7_had_12, List.forall_mem_cons.mpr ⟨mx_X7_had_32, List.forall_mem_cons.mpr ⟨mx_X7_had_14, List.forall_mem_cons.mpr ⟨mx_X7_had_33, List.forall_mem_cons.mpr ⟨mx_X7_had_34, List.forall_mem_cons.mpr ⟨mx_X7_had_35, List.forall_mem_cons.mpr ⟨mx_X7_had_36, List.forall_mem_cons.mpr ⟨mx_X7_had_37, List.forall_mem_cons.mpr ⟨mx_X7_had_38, List.forall_mem_cons.mpr ⟨mx_X7_had_39, List.forall_mem_cons.mpr ⟨mx_X7_had_40, List.forall_mem_cons.mpr ⟨mx_X7_had_41, List.forall_mem_cons.mpr ⟨mx_X7_had_42, List.forall_mem_cons.mpr ⟨mx_X7_had_43, List.forall_mem_cons.mpr ⟨mx_X7_had_44, fun _ h_ => absurd h_ List.not_mem_nil⟩⟩⟩⟩⟩⟩⟩⟩⟩⟩⟩⟩⟩⟩⟩⟩⟩⟩⟩⟩⟩⟩⟩⟩), List.forall_mem_append.mpr ⟨(by unfold wsX2_search_r2; exact List.forall_mem_cons.mpr ⟨mx_X7_had_45, List.forall_mem_cons.mpr ⟨mx_X7_had_46, List.forall_mem_cons.mpr ⟨mx_X7_had_47, List.forall_mem_cons.mpr ⟨mx_X7_had_48, List.forall_mem_cons.mpr ⟨mx_X7_had_49, List.forall_mem_cons.mpr ⟨mx_X7_had_50, List.forall_mem_cons.mpr ⟨mx_X7_had_51, List.forall_mem_cons.mpr ⟨mx_X7_had_17, List.forall_mem_cons.mpr ⟨mx_X7_had_52, List.forall_mem_cons.mpr ⟨mx_X7_had_53, List.forall_mem_cons.mpr ⟨mx_X7_had_54, List.forall_mem_cons.mpr ⟨mx_X7_had_55, List.forall_mem_cons.mpr ⟨mx_X7_had_56, List.forall_mem_cons.mpr ⟨mx_X7_had_57, List.forall_mem_cons.mpr ⟨mx_X7_had_58, List.forall_mem_cons.mpr ⟨mx_X7_had_59, List.forall_mem_cons.mpr ⟨mx_X7_had_60, List.forall_mem_cons.mpr ⟨mx_X7_had_61, List.forall_mem_cons.mpr ⟨mx_X7_had_62, List.forall_mem_cons.mpr ⟨mx_X7_had_63, List.forall_mem_cons.mpr ⟨mx_X7_had_64, List.forall_mem_cons.mpr ⟨mx_X7_had_65, List.forall_mem_cons.mpr ⟨mx_X7_had_66, List.forall_mem_cons.mpr ⟨mx_X7_had_67, fun _ h_ => absurd h_ List.not_mem_nil⟩⟩⟩⟩⟩⟩⟩⟩⟩⟩⟩⟩⟩⟩⟩⟩⟩⟩⟩⟩⟩⟩⟩⟩), List.forall_mem_append.mpr ⟨(by unfold wsX2_search_r3; exact List.forall_mem_cons.mpr ⟨mx_X7_had_68, List.forall_mem_cons.mpr ⟨mx_X7_had_69, List.forall_mem_cons.mpr ⟨mx_X7_had_70, List.forall_mem_cons.mpr ⟨mx_X7_had_71, List.forall_mem_cons.mpr ⟨mx_X7_had_72, List.forall_mem_cons.mpr ⟨mx_X7_had_73, List.forall_mem_cons.mpr ⟨mx_X7_had_74, List.forall_mem_cons.mpr ⟨mx_X7_had_75, List.forall_mem_cons.mpr ⟨mx_X7_had_76, List.forall_mem_cons.mpr ⟨mx_X7_had_77, List.forall_mem_cons.mpr ⟨mx_X7_had_78, List.forall_mem_cons.mpr ⟨mx_X7_had_79, List.forall_mem_cons.mpr ⟨mx_X7_had_80, List.forall_mem_cons.mpr ⟨mx_X7_had_81, List.forall_mem_cons.mpr ⟨mx_X7_had_82, List.forall_mem_cons.mpr ⟨mx_X7_had_83, List.forall_mem_cons.mpr ⟨mx_X7_had_84, List.forall_mem_cons.mpr ⟨mx_X7_had_85, List.forall_mem_cons.mpr ⟨mx_X7_had_86, List.forall_mem_cons.mpr ⟨mx_X7_had_87, List.forall_mem_cons.mpr ⟨mx_X7_had_88, List.forall_mem_cons.mpr ⟨mx_X7_had_89, List.forall_mem_cons.mpr ⟨mx_X7_had_90, List.forall_mem_cons.mpr ⟨mx_X7_had_91, fun _ h_ => absurd h_ List.not_mem_nil⟩⟩⟩⟩⟩⟩⟩⟩⟩⟩⟩⟩⟩⟩⟩⟩⟩⟩⟩⟩⟩⟩⟩⟩), (by unfold wsX2_search_r4; exact List.forall_mem_cons.mpr ⟨mx_X7_had_92, List.forall_mem_cons.mpr ⟨mx_X7_had_93, List.forall_mem_cons.mpr ⟨mx_X7_had_94, List.forall_mem_cons.mpr ⟨mx_X7_had_95, List.forall_mem_cons.mpr ⟨mx_X7_had_96, List.forall_mem_cons.mpr ⟨mx_X7_had_97, List.forall_mem_cons.mpr ⟨mx_X7_had_98, List.forall_mem_cons.mpr ⟨mx_X7_had_99, List.forall_mem_cons.mpr ⟨mx_X7_had_100, List.forall_mem_cons.mpr ⟨mx_X7_had_101, List.forall_mem_cons.mpr ⟨mx_X7_had_102, List.forall_mem_cons.mpr ⟨mx_X7_had_103, List.forall_mem_cons.mpr ⟨mx_X7_had_104, List.forall_mem_cons.mpr ⟨mx_X7_had_105, List.forall_mem_cons.mpr ⟨mx_X7_had_106, fun _ h_ => absurd h_ List.not_mem_nil⟩⟩⟩⟩⟩⟩⟩⟩⟩⟩⟩⟩⟩⟩⟩)⟩⟩⟩, (fun _ h_ => mb_X7_had_wsX20 h_)⟩, (fun _ h_ => mb_X7_had_wsX30 h_)⟩⟩) (by decide +kernel)
theorem mx_X7_had_19 : Cond.methodLink RX7 224 yX2_search ∈ wsX7_had := mb_X7_had_wsX7_had_r1 (List.mem_of_getElem? (i := 18) rfl)
theorem mx_X7_had_20 : Cond.instanceMethod yX2_search ∈ wsX7_had := mb_X7_had_wsX7_had_r1 (List.mem_of_getElem? (i := 19) rfl)
theorem mx_X7_had_21 : Cond.selects RX2 yX2_search yX2_search ∈ wsX7_had := mb_X7_had_wsX7_had_r1 (List.mem_of_getElem? (i := 20) rfl)
theorem gX7_had_X2_search : GoodIn wsX7_had (wsV RX7 224 RX2 yX2_search wsX2_search) := goodIn_app (goodIn_sub (List.forall_mem_cons.mpr ⟨mx_X7_had_19, List.forall_mem_cons.mpr ⟨mx_X7_had_20, List.forall_mem_cons.mpr ⟨mx_X7_had_21, List.forall_mem_cons.mpr ⟨mx_X7_had_17, fun _ h_ => absurd h_ List.not_mem_nil⟩⟩⟩⟩) (by decide +kernel)) ggX7_had_X2_search
theorem mx_X7_had_13 : Cond.code yX3_isTold cX3_isTold 1 (some .boolean) ∈ wsX7_had := mb_X7_had_wsX7_had_r1 (List.mem_of_getElem? (i := 12) rfl)
theorem ggX7_had_X3_isTold : GoodIn wsX7_had wsX3_isTold := goodIn_sub (by unfold wsX3_isTold; exact List.forall_mem_cons.mpr ⟨mx_X7_had_13, List.forall_mem_append.mpr ⟨List.forall_mem_cons.mpr ⟨mx_X7_had_14, fun _ h_ => absurd h_ List.not_mem_nil⟩, (fun _ h_ => mb_X7_had_wsX30 h_)⟩⟩) (by decide +kernel)
theorem mx_X7_had_9 : Cond.methodLink RX7 145 yX3_isTold ∈ wsX7_had := mb_X7_had_wsX7_had_r1 (List.mem_of_getElem? (i := 8) rfl)
theorem mx_X7_had_10 : Cond.instanceMethod yX3_isTold ∈ wsX7_had := mb_X7_had_wsX7_had_r1 (List.mem_of_getElem? (i := 9) rfl)
theorem mx_X7_had_11 : Cond.selects RX3 yX3_isTold yX3_isTold ∈ wsX7_had := mb_X7_had_wsX7_had_r1 (List.mem_of_getElem? (i := 10) rfl)
theorem gX7_had_X3_isTold : GoodIn wsX7_had (wsV RX7 145 RX3 yX3_isTold wsX3_isTold) := goodIn_app (goodIn_sub (List.forall_mem_cons.mpr ⟨mx_X7_had_9, List.forall_mem_cons.mpr ⟨mx_X7_had_10, List.forall_mem_cons.mpr ⟨mx_X7_had_11, List.forall_mem_cons.mpr ⟨mx_X7_had_12, fun _ h_ => absurd h_ List.not_mem_nil⟩⟩⟩⟩) (by decide +kernel)) ggX7_had_X3_isTold
theorem mb_X7_level_wsX7_level_r5 {w : Cond} (h : w ∈ wsX7_level_r5) : w ∈ wsX7_level := by unfold wsX7_level; exact List.mem_cons_of_mem _ (List.mem_append_left _ (List.mem_append_left _ (List.mem_append_left _ (List.mem_append_left _ (List.mem_append_right _ (List.mem_append_right _ (List.mem_append_right _ (List.mem_append_right _ (h)))))))))
theorem mx_X7_level_107 : Cond.code yX0_forget cX0_forget 1 none ∈ wsX7_level := mb_X7_level_wsX7_level_r5 (List.mem_of_getElem? (i := 10) rfl)
theorem mx_X7_level_108 : Cond.fieldLink RX0 16 "MillTalk$Acts" "size" "I" ∈ wsX7_level := mb_X7_level_wsX7_level_r5 (List.mem_of_getElem? (i := 11) rfl)
theorem mb_X7_level_wsX00 {w : Cond} (h : w ∈ wsX00) : w ∈ wsX7_level := by unfold wsX7_level; exact List.mem_cons_of_mem _ (List.mem_append_right _ (h))
theorem ggX7_level_X0_forget : GoodIn wsX7_level wsX0_forget := goodIn_sub (by unfold wsX0_forget; exact List.forall_mem_cons.mpr ⟨mx_X7_level_107, List.forall_mem_append.mpr ⟨List.forall_mem_cons.mpr ⟨mx_X7_level_108, fun _ h_ => absurd h_ List.not_mem_nil⟩, (fun _ h_ => mb_X7_level_wsX00 h_)⟩⟩) (by decide +kernel)
theorem mx_X7_level_103 : Cond.methodLink RX7 132 yX0_forget ∈ wsX7_level := mb_X7_level_wsX7_level_r5 (List.mem_of_getElem? (i := 6) rfl)
theorem mx_X7_level_104 : Cond.instanceMethod yX0_forget ∈ wsX7_level := mb_X7_level_wsX7_level_r5 (List.mem_of_getElem? (i := 7) rfl)
theorem mx_X7_level_105 : Cond.selects RX0 yX0_forget yX0_forget ∈ wsX7_level := mb_X7_level_wsX7_level_r5 (List.mem_of_getElem? (i := 8) rfl)
theorem mx_X7_level_106 : Cond.initialized RX0 ∈ wsX7_level := mb_X7_level_wsX7_level_r5 (List.mem_of_getElem? (i := 9) rfl)
theorem gX7_level_X0_forget : GoodIn wsX7_level (wsV RX7 132 RX0 yX0_forget wsX0_forget) := goodIn_app (goodIn_sub (List.forall_mem_cons.mpr ⟨mx_X7_level_103, List.forall_mem_cons.mpr ⟨mx_X7_level_104, List.forall_mem_cons.mpr ⟨mx_X7_level_105, List.forall_mem_cons.mpr ⟨mx_X7_level_106, fun _ h_ => absurd h_ List.not_mem_nil⟩⟩⟩⟩) (by decide +kernel)) ggX7_level_X0_forget
theorem mb_X7_level_wsX7_level_r4 {w : Cond} (h : w ∈ wsX7_level_r4) : w ∈ wsX7_level := by unfold wsX7_level; exact List.mem_cons_of_mem _ (List.mem_append_left _ (List.mem_append_left _ (List.mem_append_left _ (List.mem_append_left _ (List.mem_append_right _ (List.mem_append_right _ (List.mem_append_right _ (List.mem_append_left _ (h)))))))))
theorem mx_X7_level_96 : Cond.code yX3_becomeLike cX3_becomeLike 2 none ∈ wsX7_level := mb_X7_level_wsX7_level_r4 (List.mem_of_getElem? (i := 23) rfl)
theorem mb_X7_level_wsX7_level_r1 {w : Cond} (h : w ∈ wsX7_level_r1) : w ∈ wsX7_level := by unfold wsX7_level; exact List.mem_cons_of_mem _ (List.mem_append_left _ (List.mem_append_left _ (List.mem_append_left _ (List.mem_append_left _ (List.mem_append_left _ (h))))))
theorem mx_X7_level_24 : Cond.fieldLink RX3 27 "MillTalk$Level" "cells" "I" ∈ wsX7_level := mb_X7_level_wsX7_level_r1 (List.mem_of_getElem? (i := 23) rfl)
theorem mb_X7_level_wsX7_level_r2 {w : Cond} (h : w ∈ wsX7_level_r2) : w ∈ wsX7_level := by unfold wsX7_level; exact List.mem_cons_of_mem _ (List.mem_append_left _ (List.mem_append_left _ (List.mem_append_left _ (List.mem_append_left _ (List.mem_append_right _ (List.mem_append_left _ (h)))))))
theorem mx_X7_level_25 : Cond.fieldLink RX3 31 "MillTalk$Level" "mill" "I" ∈ wsX7_level := mb_X7_level_wsX7_level_r2 (List.mem_of_getElem? (i := 0) rfl)
theorem mx_X7_level_26 : Cond.fieldLink RX3 34 "MillTalk$Level" "reach" "I" ∈ wsX7_level := mb_X7_level_wsX7_level_r2 (List.mem_of_getElem? (i := 1) rfl)
theorem mx_X7_level_27 : Cond.fieldLink RX3 37 "MillTalk$Level" "cap" "I" ∈ wsX7_level := mb_X7_level_wsX7_level_r2 (List.mem_of_getElem? (i := 2) rfl)
theorem mx_X7_level_28 : Cond.fieldLink RX3 40 "MillTalk$Level" "hour" "I" ∈ wsX7_level := mb_X7_level_wsX7_level_r2 (List.mem_of_getElem? (i := 3) rfl)
theorem mx_X7_level_29 : Cond.fieldLink RX3 43 "MillTalk$Level" "meal" "I" ∈ wsX7_level := mb_X7_level_wsX7_level_r2 (List.mem_of_getElem? (i := 4) rfl)
theorem mx_X7_level_30 : Cond.fieldLink RX3 46 "MillTalk$Level" "windCount" "I" ∈ wsX7_level := mb_X7_level_wsX7_level_r2 (List.mem_of_getElem? (i := 5) rfl)
theorem mx_X7_level_31 : Cond.fieldLink RX3 49 "MillTalk$Level" "soundCount" "I" ∈ wsX7_level := mb_X7_level_wsX7_level_r2 (List.mem_of_getElem? (i := 6) rfl)
theorem mx_X7_level_97 : Cond.fieldLink RX3 9 "MillTalk$Level" "winds" "[I" ∈ wsX7_level := mb_X7_level_wsX7_level_r5 (List.mem_of_getElem? (i := 0) rfl)
theorem mx_X7_level_98 : Cond.methodLink RX3 52 arraycopyName ∈ wsX7_level := mb_X7_level_wsX7_level_r5 (List.mem_of_getElem? (i := 1) rfl)
theorem mx_X7_level_99 : Cond.native arraycopyName ∈ wsX7_level := mb_X7_level_wsX7_level_r5 (List.mem_of_getElem? (i := 2) rfl)
theorem mx_X7_level_100 : Cond.static arraycopyName ∈ wsX7_level := mb_X7_level_wsX7_level_r5 (List.mem_of_getElem? (i := 3) rfl)
theorem mx_X7_level_101 : Cond.initialized "java/lang/System" ∈ wsX7_level := mb_X7_level_wsX7_level_r5 (List.mem_of_getElem? (i := 4) rfl)
theorem mx_X7_level_102 : Cond.fieldLink RX3 15 "MillTalk$Level" "kinds" "[I" ∈ wsX7_level := mb_X7_level_wsX7_level_r5 (List.mem_of_getElem? (i := 5) rfl)
theorem mx_X7_level_90 : Cond.fieldLink RX3 18 "MillTalk$Level" "places" "[I" ∈ wsX7_level := mb_X7_level_wsX7_level_r4 (List.mem_of_getElem? (i := 17) rfl)
theorem mx_X7_level_91 : Cond.fieldLink RX3 21 "MillTalk$Level" "louds" "[I" ∈ wsX7_level := mb_X7_level_wsX7_level_r4 (List.mem_of_getElem? (i := 18) rfl)
theorem mx_X7_level_92 : Cond.fieldLink RX3 24 "MillTalk$Level" "hows" "[I" ∈ wsX7_level := mb_X7_level_wsX7_level_r4 (List.mem_of_getElem? (i := 19) rfl)
theorem mb_X7_level_wsX30 {w : Cond} (h : w ∈ wsX30) : w ∈ wsX7_level := by unfold wsX7_level; exact List.mem_cons_of_mem _ (List.mem_append_left _ (List.mem_append_right _ (h)))
theorem ggX7_level_X3_becomeLike : GoodIn wsX7_level wsX3_becomeLike := goodIn_sub (by unfold wsX3_becomeLike; exact List.forall_mem_cons.mpr ⟨mx_X7_level_96, List.forall_mem_append.mpr ⟨List.forall_mem_cons.mpr ⟨mx_X7_level_24, List.forall_mem_cons.mpr ⟨mx_X7_level_25, List.forall_mem_cons.mpr ⟨mx_X7_level_26, List.forall_mem_cons.mpr ⟨mx_X7_level_27, List.forall_mem_cons.mpr ⟨mx_X7_level_28, List.forall_mem_cons.mpr ⟨mx_X7_level_29, List.forall_mem_cons.mpr ⟨mx_X7_level_30, List.forall_mem_cons.mpr ⟨mx_X7_level_31, List.forall_mem_cons.mpr ⟨mx_X7_level_97, List.forall_mem_cons.mpr ⟨mx_X7_level_98, List.forall_mem_cons.mpr ⟨mx_X7_level_99, List.forall_mem_cons.mpr ⟨mx_X7_level_100, List.forall_mem_cons.mpr ⟨mx_X7_level_101, List.forall_mem_cons.mpr ⟨mx_X7_level_102, List.forall_mem_cons.mpr ⟨mx_X7_level_90, List.forall_mem_cons.mpr ⟨mx_X7_level_91, List.forall_mem_cons.mpr ⟨mx_X7_level_92, fun _ h_ => absurd h_ List.not_mem_nil⟩⟩⟩⟩⟩⟩⟩⟩⟩⟩⟩⟩⟩⟩⟩⟩⟩, (fun _ h_ => mb_X7_level_wsX30 h_)⟩⟩) (by decide +kernel)
theorem mx_X7_level_93 : Cond.methodLink RX7 128 yX3_becomeLike ∈ wsX7_level := mb_X7_level_wsX7_level_r4 (List.mem_of_getElem? (i := 20) rfl)
theorem mx_X7_level_94 : Cond.instanceMethod yX3_becomeLike ∈ wsX7_level := mb_X7_level_wsX7_level_r4 (List.mem_of_getElem? (i := 21) rfl)
theorem mx_X7_level_95 : Cond.selects RX3 yX3_becomeLike yX3_becomeLike ∈ wsX7_level := mb_X7_level_wsX7_level_r4 (List.mem_of_getElem? (i := 22) rfl)
theorem mx_X7_level_22 : Cond.initialized RX3 ∈ wsX7_level := mb_X7_level_wsX7_level_r1 (List.mem_of_getElem? (i := 21) rfl)
theorem gX7_level_X3_becomeLike : GoodIn wsX7_level (wsV RX7 128 RX3 yX3_becomeLike wsX3_becomeLike) := goodIn_app (goodIn_sub (List.forall_mem_cons.mpr ⟨mx_X7_level_93, List.forall_mem_cons.mpr ⟨mx_X7_level_94, List.forall_mem_cons.mpr ⟨mx_X7_level_95, List.forall_mem_cons.mpr ⟨mx_X7_level_22, fun _ h_ => absurd h_ List.not_mem_nil⟩⟩⟩⟩) (by decide +kernel)) ggX7_level_X3_becomeLike
theorem mx_X7_level_13 : Cond.code yX6_read cX6_read 1 (some .int) ∈ wsX7_level := mb_X7_level_wsX7_level_r1 (List.mem_of_getElem? (i := 12) rfl)
theorem mx_X7_level_14 : Cond.fieldLink RX6 30 "MillTalk$Tape" "fault" "I" ∈ wsX7_level := mb_X7_level_wsX7_level_r1 (List.mem_of_getElem? (i := 13) rfl)
theorem mx_X7_level_15 : Cond.fieldLink RX6 33 "MillTalk$Tape" "faultPlace" "I" ∈ wsX7_level := mb_X7_level_wsX7_level_r1 (List.mem_of_getElem? (i := 14) rfl)
theorem mx_X7_level_16 : Cond.fieldLink RX6 36 "MillTalk$Tape" "place" "I" ∈ wsX7_level := mb_X7_level_wsX7_level_r1 (List.mem_of_getElem? (i := 15) rfl)
theorem mx_X7_level_17 : Cond.fieldLink RX6 18 "MillTalk$Tape" "told" "LMillTalk$Level;" ∈ wsX7_level := mb_X7_level_wsX7_level_r1 (List.mem_of_getElem? (i := 16) rfl)
theorem mx_X7_level_18 : Cond.fieldLink RX6 22 "MillTalk$Tape" "size" "I" ∈ wsX7_level := mb_X7_level_wsX7_level_r1 (List.mem_of_getElem? (i := 17) rfl)
theorem mx_X7_level_19 : Cond.methodLink RX6 39 yX3_begin ∈ wsX7_level := mb_X7_level_wsX7_level_r1 (List.mem_of_getElem? (i := 18) rfl)
theorem mx_X7_level_20 : Cond.instanceMethod yX3_begin ∈ wsX7_level := mb_X7_level_wsX7_level_r1 (List.mem_of_getElem? (i := 19) rfl)
theorem mx_X7_level_21 : Cond.selects RX3 yX3_begin yX3_begin ∈ wsX7_level := mb_X7_level_wsX7_level_r1 (List.mem_of_getElem? (i := 20) rfl)
theorem mx_X7_level_23 : Cond.code yX3_begin cX3_begin 1 none ∈ wsX7_level := mb_X7_level_wsX7_level_r1 (List.mem_of_getElem? (i := 22) rfl)
theorem mx_X7_level_32 : Cond.methodLink RX6 42 yX6_readLaw ∈ wsX7_level := mb_X7_level_wsX7_level_r2 (List.mem_of_getElem? (i := 7) rfl)
theorem mx_X7_level_33 : Cond.instanceMethod yX6_readLaw ∈ wsX7_level := mb_X7_level_wsX7_level_r2 (List.mem_of_getElem? (i := 8) rfl)
theorem mx_X7_level_34 : Cond.selects RX6 yX6_readLaw yX6_readLaw ∈ wsX7_level := mb_X7_level_wsX7_level_r2 (List.mem_of_getElem? (i := 9) rfl)
theorem mx_X7_level_12 : Cond.initialized RX6 ∈ wsX7_level := mb_X7_level_wsX7_level_r1 (List.mem_of_getElem? (i := 11) rfl)
theorem mx_X7_level_35 : Cond.code yX6_readLaw cX6_readLaw 1 none ∈ wsX7_level := mb_X7_level_wsX7_level_r2 (List.mem_of_getElem? (i := 10) rfl)
theorem mx_X7_level_36 : Cond.fieldLink RX6 59 "MillTalk$Level" "cells" "I" ∈ wsX7_level := mb_X7_level_wsX7_level_r2 (List.mem_of_getElem? (i := 11) rfl)
theorem mx_X7_level_37 : Cond.fieldLink RX6 62 "MillTalk$Level" "mill" "I" ∈ wsX7_level := mb_X7_level_wsX7_level_r2 (List.mem_of_getElem? (i := 12) rfl)
theorem mx_X7_level_38 : Cond.fieldLink RX6 65 "MillTalk$Level" "reach" "I" ∈ wsX7_level := mb_X7_level_wsX7_level_r2 (List.mem_of_getElem? (i := 13) rfl)
theorem mx_X7_level_39 : Cond.methodLink RX6 51 yX6_readByte ∈ wsX7_level := mb_X7_level_wsX7_level_r2 (List.mem_of_getElem? (i := 14) rfl)
theorem mx_X7_level_40 : Cond.instanceMethod yX6_readByte ∈ wsX7_level := mb_X7_level_wsX7_level_r2 (List.mem_of_getElem? (i := 15) rfl)
theorem mx_X7_level_41 : Cond.selects RX6 yX6_readByte yX6_readByte ∈ wsX7_level := mb_X7_level_wsX7_level_r2 (List.mem_of_getElem? (i := 16) rfl)
theorem mx_X7_level_42 : Cond.code yX6_readByte cX6_readByte 2 none ∈ wsX7_level := mb_X7_level_wsX7_level_r2 (List.mem_of_getElem? (i := 17) rfl)
theorem mx_X7_level_43 : Cond.methodLink RX6 71 yX6_byteAt ∈ wsX7_level := mb_X7_level_wsX7_level_r2 (List.mem_of_getElem? (i := 18) rfl)
theorem mx_X7_level_44 : Cond.instanceMethod yX6_byteAt ∈ wsX7_level := mb_X7_level_wsX7_level_r2 (List.mem_of_getElem? (i := 19) rfl)
theorem mx_X7_level_45 : Cond.selects RX6 yX6_byteAt yX6_byteAt ∈ wsX7_level := mb_X7_level_wsX7_level_r2 (List.mem_of_getElem? (i := 20) rfl)
theorem mx_X7_level_46 : Cond.code yX6_byteAt cX6_byteAt 2 (some .int) ∈ wsX7_level := mb_X7_level_wsX7_level_r2 (List.mem_of_getElem? (i := 21) rfl)
theorem mx_X7_level_47 : Cond.fieldLink RX6 11 "MillTalk$Tape" "bytes" "[I" ∈ wsX7_level := mb_X7_level_wsX7_level_r2 (List.mem_of_getElem? (i := 22) rfl)
theorem mx_X7_level_48 : Cond.methodLink RX6 78 yX6_fail ∈ wsX7_level := mb_X7_level_wsX7_level_r2 (List.mem_of_getElem? (i := 23) rfl)
theorem mb_X7_level_wsX7_level_r3 {w : Cond} (h : w ∈ wsX7_level_r3) : w ∈ wsX7_level := by unfold wsX7_level; exact List.mem_cons_of_mem _ (List.mem_append_left _ (List.mem_append_left _ (List.mem_append_left _ (List.mem_append_left _ (List.mem_append_right _ (List.mem_append_right _ (List.mem_append_left _ (h))))))))
theorem mx_X7_level_49 : Cond.instanceMethod yX6_fail ∈ wsX7_level := mb_X7_level_wsX7_level_r3 (List.mem_of_getElem? (i := 0) rfl)
theorem mx_X7_level_50 : Cond.selects RX6 yX6_fail yX6_fail ∈ wsX7_level := mb_X7_level_wsX7_level_r3 (List.mem_of_getElem? (i := 1) rfl)
theorem mx_X7_level_51 : Cond.code yX6_fail cX6_fail 2 none ∈ wsX7_level := mb_X7_level_wsX7_level_r3 (List.mem_of_getElem? (i := 2) rfl)
theorem mx_X7_level_52 : Cond.methodLink RX6 55 yX6_readNumber ∈ wsX7_level := mb_X7_level_wsX7_level_r3 (List.mem_of_getElem? (i := 3) rfl)
theorem mx_X7_level_53 : Cond.instanceMethod yX6_readNumber ∈ wsX7_level := mb_X7_level_wsX7_level_r3 (List.mem_of_getElem? (i := 4) rfl)
theorem mx_X7_level_54 : Cond.selects RX6 yX6_readNumber yX6_readNumber ∈ wsX7_level := mb_X7_level_wsX7_level_r3 (List.mem_of_getElem? (i := 5) rfl)
theorem mx_X7_level_55 : Cond.code yX6_readNumber cX6_readNumber 6 (some .int) ∈ wsX7_level := mb_X7_level_wsX7_level_r3 (List.mem_of_getElem? (i := 6) rfl)
theorem mx_X7_level_56 : Cond.methodLink RX6 100 yX6_figuresHere ∈ wsX7_level := mb_X7_level_wsX7_level_r3 (List.mem_of_getElem? (i := 7) rfl)
theorem mx_X7_level_57 : Cond.instanceMethod yX6_figuresHere ∈ wsX7_level := mb_X7_level_wsX7_level_r3 (List.mem_of_getElem? (i := 8) rfl)
theorem mx_X7_level_58 : Cond.selects RX6 yX6_figuresHere yX6_figuresHere ∈ wsX7_level := mb_X7_level_wsX7_level_r3 (List.mem_of_getElem? (i := 9) rfl)
theorem mx_X7_level_59 : Cond.code yX6_figuresHere cX6_figuresHere 2 (some .int) ∈ wsX7_level := mb_X7_level_wsX7_level_r3 (List.mem_of_getElem? (i := 10) rfl)
theorem mx_X7_level_60 : Cond.methodLink RX6 104 yX6_isFigure ∈ wsX7_level := mb_X7_level_wsX7_level_r3 (List.mem_of_getElem? (i := 11) rfl)
theorem mx_X7_level_61 : Cond.static yX6_isFigure ∈ wsX7_level := mb_X7_level_wsX7_level_r3 (List.mem_of_getElem? (i := 12) rfl)
theorem mx_X7_level_62 : Cond.code yX6_isFigure cX6_isFigure 1 (some .boolean) ∈ wsX7_level := mb_X7_level_wsX7_level_r3 (List.mem_of_getElem? (i := 13) rfl)
theorem mx_X7_level_63 : Cond.methodLink RX6 45 yX6_readWinds ∈ wsX7_level := mb_X7_level_wsX7_level_r3 (List.mem_of_getElem? (i := 14) rfl)
theorem mx_X7_level_64 : Cond.instanceMethod yX6_readWinds ∈ wsX7_level := mb_X7_level_wsX7_level_r3 (List.mem_of_getElem? (i := 15) rfl)
theorem mx_X7_level_65 : Cond.selects RX6 yX6_readWinds yX6_readWinds ∈ wsX7_level := mb_X7_level_wsX7_level_r3 (List.mem_of_getElem? (i := 16) rfl)
theorem mx_X7_level_66 : Cond.code yX6_readWinds cX6_readWinds 2 none ∈ wsX7_level := mb_X7_level_wsX7_level_r3 (List.mem_of_getElem? (i := 17) rfl)
theorem mx_X7_level_67 : Cond.methodLink RX6 68 yX6_readWind ∈ wsX7_level := mb_X7_level_wsX7_level_r3 (List.mem_of_getElem? (i := 18) rfl)
theorem mx_X7_level_68 : Cond.instanceMethod yX6_readWind ∈ wsX7_level := mb_X7_level_wsX7_level_r3 (List.mem_of_getElem? (i := 19) rfl)
theorem mx_X7_level_69 : Cond.selects RX6 yX6_readWind yX6_readWind ∈ wsX7_level := mb_X7_level_wsX7_level_r3 (List.mem_of_getElem? (i := 20) rfl)
theorem mx_X7_level_70 : Cond.code yX6_readWind cX6_readWind 2 none ∈ wsX7_level := mb_X7_level_wsX7_level_r3 (List.mem_of_getElem? (i := 21) rfl)
theorem mx_X7_level_71 : Cond.fieldLink RX6 75 "MillTalk$Level" "windCount" "I" ∈ wsX7_level := mb_X7_level_wsX7_level_r3 (List.mem_of_getElem? (i := 22) rfl)
theorem mx_X7_level_72 : Cond.fieldLink RX6 81 "MillTalk$Level" "winds" "[I" ∈ wsX7_level := mb_X7_level_wsX7_level_r3 (List.mem_of_getElem? (i := 23) rfl)
theorem mx_X7_level_73 : Cond.methodLink RX6 48 yX6_readSounds ∈ wsX7_level := mb_X7_level_wsX7_level_r4 (List.mem_of_getElem? (i := 0) rfl)
theorem mx_X7_level_74 : Cond.instanceMethod yX6_readSounds ∈ wsX7_level := mb_X7_level_wsX7_level_r4 (List.mem_of_getElem? (i := 1) rfl)
theorem mx_X7_level_75 : Cond.selects RX6 yX6_readSounds yX6_readSounds ∈ wsX7_level := mb_X7_level_wsX7_level_r4 (List.mem_of_getElem? (i := 2) rfl)
theorem mx_X7_level_76 : Cond.code yX6_readSounds cX6_readSounds 2 none ∈ wsX7_level := mb_X7_level_wsX7_level_r4 (List.mem_of_getElem? (i := 3) rfl)
theorem mx_X7_level_77 : Cond.methodLink RX6 84 yX6_readSound ∈ wsX7_level := mb_X7_level_wsX7_level_r4 (List.mem_of_getElem? (i := 4) rfl)
theorem mx_X7_level_78 : Cond.instanceMethod yX6_readSound ∈ wsX7_level := mb_X7_level_wsX7_level_r4 (List.mem_of_getElem? (i := 5) rfl)
theorem mx_X7_level_79 : Cond.selects RX6 yX6_readSound yX6_readSound ∈ wsX7_level := mb_X7_level_wsX7_level_r4 (List.mem_of_getElem? (i := 6) rfl)
theorem mx_X7_level_80 : Cond.code yX6_readSound cX6_readSound 4 none ∈ wsX7_level := mb_X7_level_wsX7_level_r4 (List.mem_of_getElem? (i := 7) rfl)
theorem mx_X7_level_81 : Cond.fieldLink RX6 90 "MillTalk$Level" "soundCount" "I" ∈ wsX7_level := mb_X7_level_wsX7_level_r4 (List.mem_of_getElem? (i := 8) rfl)
theorem mx_X7_level_82 : Cond.fieldLink RX6 93 "MillTalk$Level" "kinds" "[I" ∈ wsX7_level := mb_X7_level_wsX7_level_r4 (List.mem_of_getElem? (i := 9) rfl)
theorem mx_X7_level_83 : Cond.methodLink RX6 87 yX6_kindOf ∈ wsX7_level := mb_X7_level_wsX7_level_r4 (List.mem_of_getElem? (i := 10) rfl)
theorem mx_X7_level_84 : Cond.static yX6_kindOf ∈ wsX7_level := mb_X7_level_wsX7_level_r4 (List.mem_of_getElem? (i := 11) rfl)
theorem mx_X7_level_85 : Cond.code yX6_kindOf cX6_kindOf 1 (some .int) ∈ wsX7_level := mb_X7_level_wsX7_level_r4 (List.mem_of_getElem? (i := 12) rfl)
theorem mx_X7_level_86 : Cond.methodLink RX6 96 yX3_letLoose ∈ wsX7_level := mb_X7_level_wsX7_level_r4 (List.mem_of_getElem? (i := 13) rfl)
theorem mx_X7_level_87 : Cond.instanceMethod yX3_letLoose ∈ wsX7_level := mb_X7_level_wsX7_level_r4 (List.mem_of_getElem? (i := 14) rfl)
theorem mx_X7_level_88 : Cond.selects RX3 yX3_letLoose yX3_letLoose ∈ wsX7_level := mb_X7_level_wsX7_level_r4 (List.mem_of_getElem? (i := 15) rfl)
theorem mx_X7_level_89 : Cond.code yX3_letLoose cX3_letLoose 4 none ∈ wsX7_level := mb_X7_level_wsX7_level_r4 (List.mem_of_getElem? (i := 16) rfl)
theorem mb_X7_level_wsX60 {w : Cond} (h : w ∈ wsX60) : w ∈ wsX7_level := by unfold wsX7_level; exact List.mem_cons_of_mem _ (List.mem_append_left _ (List.mem_append_left _ (List.mem_append_right _ (h))))
theorem ggX7_level_X6_read : GoodIn wsX7_level wsX6_read := goodIn_sub (by unfold wsX6_read; exact List.forall_mem_cons.mpr ⟨mx_X7_level_13, List.forall_mem_append.mpr ⟨List.forall_mem_append.mpr ⟨List.forall_mem_append.mpr ⟨(by unfold wsX6_read_r1; exact List.forall_mem_cons.mpr ⟨mx_X7_level_14, List.forall_mem_cons.mpr ⟨mx_X7_level_15, List.forall_mem_cons.mpr ⟨mx_X7_level_16, List.forall_mem_cons.mpr ⟨mx_X7_level_17, List.forall_mem_cons.mpr ⟨mx_X7_level_18, List.forall_mem_cons.mpr ⟨mx_X7_level_19, List.forall_mem_cons.mpr ⟨mx_X7_level_20, List.forall_mem_cons.mpr ⟨mx_X7_level_21, List.forall_mem_cons.mpr ⟨mx_X7_level_22, List.forall_mem_cons.mpr ⟨mx_X7_level_23, List.forall_mem_cons.mpr ⟨mx_X7_level_24, List.forall_mem_cons.mpr ⟨mx_X7_level_25, List.forall_mem_cons.mpr ⟨mx_X7_level_26, List.forall_mem_cons.mpr ⟨mx_X7_level_27, List.forall_mem_cons.mpr ⟨mx_X7_level_28, List.forall_mem_cons.mpr ⟨mx_X7_level_29, List.forall_mem_cons.mpr ⟨mx_X7_level_30, List.forall_mem_cons.mpr ⟨mx_X7_level_31, List.forall_mem_cons.mpr ⟨mx_X7_level_32, List.forall_mem_cons.mpr ⟨mx_X7_level_33, List.forall_mem_cons.mpr ⟨mx_X7_level_34, List.forall_mem_cons.mpr ⟨mx_X7_level_12, List.forall_mem_cons.mpr ⟨mx_X7_level_35, List.forall_mem_cons.mpr ⟨mx_X7_level_36, fun _ h_ => absurd h_ List.not_mem_nil⟩⟩⟩⟩⟩⟩⟩⟩⟩⟩⟩⟩⟩⟩⟩⟩⟩⟩⟩⟩⟩⟩⟩⟩), List.forall_mem_append.mpr ⟨(by unfold wsX6_read_r2; exact List.forall_mem_cons.mpr ⟨mx_X7_level_37, List.forall_mem_cons.mpr ⟨mx_X7_level_38, List.forall_mem_cons.mpr ⟨mx_X7_level_39, List.forall_mem_cons.mpr ⟨mx_X7_level_40, List.forall_mem_cons.mpr ⟨mx_X7_level_41, List.forall_mem_cons.mpr ⟨mx_X7_level_42, List.forall_mem_cons.mpr ⟨mx_X7_level_43, List.forall_mem_cons.mpr ⟨mx_X7_level_44, List.forall_mem_cons.mpr ⟨mx_X7_level_45, List.forall_mem_cons.mpr ⟨mx_X7_level_46, List.forall_mem_cons.mpr ⟨mx_X7_level_47, List.forall_mem_cons.mpr ⟨mx_X7_level_48, List.forall_mem_cons.mpr ⟨mx_X7_level_49, List.forall_mem_cons.mpr ⟨mx_X7_level_50, List.forall_mem_cons.mpr ⟨mx_X7_level_51, List.forall_mem_cons.mpr ⟨mx_X7_level_52, List.forall_mem_cons.mpr ⟨mx_X7_level_53, List.forall_mem_cons.mpr ⟨mx_X7_level_54, List.forall_mem_cons.mpr ⟨mx_X7_level_55, List.forall_mem_cons.mpr ⟨mx_X7_level_56, List.forall_mem_cons.mpr ⟨mx_X7_level_57, List.forall_mem_cons.mpr ⟨mx_X7_level_58, List.forall_mem_cons.mpr ⟨mx_X7_level_59, List.forall_mem_cons.mpr ⟨mx_X7_level_60, fun _ h_ => absurd h_ List.not_mem_nil⟩⟩⟩⟩⟩⟩⟩⟩⟩⟩⟩⟩⟩⟩⟩⟩⟩⟩⟩⟩⟩⟩⟩⟩), List.forall_mem_append.mpr ⟨(by unfold wsX6_read_r3; exact List.forall_mem_cons.mpr ⟨mx_X7_level_61, List.forall_mem_cons.mpr ⟨mx_X7_level_62, List.forall_mem_cons.mpr ⟨mx_X7_level_63, List.forall_mem_cons.mpr ⟨mx_X7_level_64, List.forall_mem_cons.mpr ⟨mx_X7_level_65, List.forall_mem_cons.mpr ⟨mx_X7_level_66, List.forall_mem_cons.mpr ⟨mx_X7_level_67, List.forall_mem_cons.mpr ⟨mx_X7_level_68, List.forall_mem_cons.mpr ⟨mx_X7_level_69, List.forall_mem_cons.mpr ⟨mx_X7_level_70, List.forall_mem_cons.mpr ⟨mx_X7_level_71, List.forall_mem_cons.mpr ⟨mx_X7_level_72, List.forall_mem_cons.mpr ⟨mx_X7_level_73, List.forall_mem_cons.mpr ⟨mx_X7_level_74, List.forall_mem_cons.mpr ⟨mx_X7_level_75, List.forall_mem_cons.mpr ⟨mx_X7_level_76, List.forall_mem_cons.mpr ⟨mx_X7_level_77, List.forall_mem_cons.mpr ⟨mx_X7_level_78, List.forall_mem_cons.mpr ⟨mx_X7_level_79, List.forall_mem_cons.mpr ⟨mx_X7_level_80, List.forall_mem_cons.mpr ⟨mx_X7_level_81, List.forall_mem_cons.mpr ⟨mx_X7_level_82, List.forall_mem_cons.mpr ⟨mx_X7_level_83, List.forall_mem_cons.mpr ⟨mx_X7_level_84, fun _ h_ => absurd h_ List.not_mem_nil⟩⟩⟩⟩⟩⟩⟩⟩⟩⟩⟩⟩⟩⟩⟩⟩⟩⟩⟩⟩⟩⟩⟩⟩), (by unfold wsX6_read_r4; exact List.forall_mem_cons.mpr ⟨mx_X7_level_85, List.forall_mem_cons.mpr ⟨mx_X7_level_86, List.forall_mem_cons.mpr ⟨mx_X7_level_87, List.forall_mem_cons.mpr ⟨mx_X7_level_88, List.forall_mem_cons.mpr ⟨mx_X7_level_89, List.forall_mem_cons.mpr ⟨mx_X7_level_90, List.forall_mem_cons.mpr ⟨mx_X7_level_91, List.forall_mem_cons.mpr ⟨mx_X7_level_92, fun _ h_ => absurd h_ List.not_mem_nil⟩⟩⟩⟩⟩⟩⟩⟩)⟩⟩⟩, (fun _ h_ => mb_X7_level_wsX60 h_)⟩, (fun _ h_ => mb_X7_level_wsX30 h_)⟩⟩) (by decide +kernel)
theorem mx_X7_level_9 : Cond.methodLink RX7 113 yX6_read ∈ wsX7_level := mb_X7_level_wsX7_level_r1 (List.mem_of_getElem? (i := 8) rfl)
theorem mx_X7_level_10 : Cond.instanceMethod yX6_read ∈ wsX7_level := mb_X7_level_wsX7_level_r1 (List.mem_of_getElem? (i := 9) rfl)
theorem mx_X7_level_11 : Cond.selects RX6 yX6_read yX6_read ∈ wsX7_level := mb_X7_level_wsX7_level_r1 (List.mem_of_getElem? (i := 10) rfl)
theorem gX7_level_X6_read : GoodIn wsX7_level (wsV RX7 113 RX6 yX6_read wsX6_read) := goodIn_app (goodIn_sub (List.forall_mem_cons.mpr ⟨mx_X7_level_9, List.forall_mem_cons.mpr ⟨mx_X7_level_10, List.forall_mem_cons.mpr ⟨mx_X7_level_11, List.forall_mem_cons.mpr ⟨mx_X7_level_12, fun _ h_ => absurd h_ List.not_mem_nil⟩⟩⟩⟩) (by decide +kernel)) ggX7_level_X6_read
theorem mb_X7_row_wsX7_row_r1 {w : Cond} (h : w ∈ wsX7_row_r1) : w ∈ wsX7_row := by unfold wsX7_row; exact List.mem_cons_of_mem _ (List.mem_append_left _ (List.mem_append_left _ (List.mem_append_left _ (h))))
theorem mx_X7_row_9 : Cond.code yX5_isLane cX5_isLane 1 (some .boolean) ∈ wsX7_row := mb_X7_row_wsX7_row_r1 (List.mem_of_getElem? (i := 8) rfl)
theorem ggX7_row_X5_isLane : GoodIn wsX7_row wsX5_isLane := goodIn_sub (by unfold wsX5_isLane; exact List.forall_mem_cons.mpr ⟨mx_X7_row_9, fun _ h_ => absurd h_ List.not_mem_nil⟩) (by decide +kernel)
set_option maxRecDepth 20000 in
theorem gX7_row_X5_isLane : GoodIn wsX7_row (va_wsS RX7 69 yX5_isLane wsX5_isLane) := goodIn_app (goodIn_of _ (by decide +kernel)) ggX7_row_X5_isLane
theorem mx_X7_row_6 : Cond.code yX5_isRow cX5_isRow 1 (some .boolean) ∈ wsX7_row := mb_X7_row_wsX7_row_r1 (List.mem_of_getElem? (i := 5) rfl)
theorem ggX7_row_X5_isRow : GoodIn wsX7_row wsX5_isRow := goodIn_sub (by unfold wsX5_isRow; exact List.forall_mem_cons.mpr ⟨mx_X7_row_6, fun _ h_ => absurd h_ List.not_mem_nil⟩) (by decide +kernel)
set_option maxRecDepth 20000 in
theorem gX7_row_X5_isRow : GoodIn wsX7_row (va_wsS RX7 65 yX5_isRow wsX5_isRow) := goodIn_app (goodIn_of _ (by decide +kernel)) ggX7_row_X5_isRow
theorem mx_X7_row_20 : Cond.code yX5_make cX5_make 4 none ∈ wsX7_row := mb_X7_row_wsX7_row_r1 (List.mem_of_getElem? (i := 19) rfl)
theorem mx_X7_row_21 : Cond.fieldLink RX5 16 "MillTalk$Rows" "lanes" "[I" ∈ wsX7_row := mb_X7_row_wsX7_row_r1 (List.mem_of_getElem? (i := 20) rfl)
theorem mx_X7_row_22 : Cond.fieldLink RX5 20 "MillTalk$Rows" "lengths" "[I" ∈ wsX7_row := mb_X7_row_wsX7_row_r1 (List.mem_of_getElem? (i := 21) rfl)
theorem mx_X7_row_23 : Cond.fieldLink RX5 13 "MillTalk$Rows" "items" "[[I" ∈ wsX7_row := mb_X7_row_wsX7_row_r1 (List.mem_of_getElem? (i := 22) rfl)
theorem mx_X7_row_24 : Cond.methodLink RX5 23 yJ7_fill_53178 ∈ wsX7_row := mb_X7_row_wsX7_row_r1 (List.mem_of_getElem? (i := 23) rfl)
theorem mb_X7_row_wsX7_row_r2 {w : Cond} (h : w ∈ wsX7_row_r2) : w ∈ wsX7_row := by unfold wsX7_row; exact List.mem_cons_of_mem _ (List.mem_append_left _ (List.mem_append_left _ (List.mem_append_right _ (h))))
theorem mx_X7_row_25 : Cond.static yJ7_fill_53178 ∈ wsX7_row := mb_X7_row_wsX7_row_r2 (List.mem_of_getElem? (i := 0) rfl)
theorem mx_X7_row_26 : Cond.initialized RJ7 ∈ wsX7_row := mb_X7_row_wsX7_row_r2 (List.mem_of_getElem? (i := 1) rfl)
theorem mx_X7_row_27 : Cond.code yJ7_fill_53178 cJ7_fill_53178 4 none ∈ wsX7_row := mb_X7_row_wsX7_row_r2 (List.mem_of_getElem? (i := 2) rfl)
theorem mb_X7_row_wsX50 {w : Cond} (h : w ∈ wsX50) : w ∈ wsX7_row := by unfold wsX7_row; exact List.mem_cons_of_mem _ (List.mem_append_right _ (h))
theorem ggX7_row_X5_make : GoodIn wsX7_row wsX5_make := goodIn_sub (by unfold wsX5_make; exact List.forall_mem_cons.mpr ⟨mx_X7_row_20, List.forall_mem_append.mpr ⟨List.forall_mem_cons.mpr ⟨mx_X7_row_21, List.forall_mem_cons.mpr ⟨mx_X7_row_22, List.forall_mem_cons.mpr ⟨mx_X7_row_23, List.forall_mem_cons.mpr ⟨mx_X7_row_24, List.forall_mem_cons.mpr ⟨mx_X7_row_25, List.forall_mem_cons.mpr ⟨mx_X7_row_26, List.forall_mem_cons.mpr ⟨mx_X7_row_27, fun _ h_ => absurd h_ List.not_mem_nil⟩⟩⟩⟩⟩⟩⟩, (fun _ h_ => mb_X7_row_wsX50 h_)⟩⟩) (by decide +kernel)
theorem mx_X7_row_17 : Cond.methodLink RX7 77 yX5_make ∈ wsX7_row := mb_X7_row_wsX7_row_r1 (List.mem_of_getElem? (i := 16) rfl)
theorem mx_X7_row_18 : Cond.instanceMethod yX5_make ∈ wsX7_row := mb_X7_row_wsX7_row_r1 (List.mem_of_getElem? (i := 17) rfl)
theorem mx_X7_row_19 : Cond.selects RX5 yX5_make yX5_make ∈ wsX7_row := mb_X7_row_wsX7_row_r1 (List.mem_of_getElem? (i := 18) rfl)
theorem mx_X7_row_5 : Cond.initialized RX5 ∈ wsX7_row := mb_X7_row_wsX7_row_r1 (List.mem_of_getElem? (i := 4) rfl)
theorem gX7_row_X5_make : GoodIn wsX7_row (wsV RX7 77 RX5 yX5_make wsX5_make) := goodIn_app (goodIn_sub (List.forall_mem_cons.mpr ⟨mx_X7_row_17, List.forall_mem_cons.mpr ⟨mx_X7_row_18, List.forall_mem_cons.mpr ⟨mx_X7_row_19, List.forall_mem_cons.mpr ⟨mx_X7_row_5, fun _ h_ => absurd h_ List.not_mem_nil⟩⟩⟩⟩) (by decide +kernel)) ggX7_row_X5_make
theorem mx_X7_row_14 : Cond.code yX7_found cX7_found 2 (some .int) ∈ wsX7_row := mb_X7_row_wsX7_row_r1 (List.mem_of_getElem? (i := 13) rfl)
theorem mx_X7_row_15 : Cond.fieldLink RX7 323 "MillTalk" "latestFinding" "I" ∈ wsX7_row := mb_X7_row_wsX7_row_r1 (List.mem_of_getElem? (i := 14) rfl)
theorem mx_X7_row_16 : Cond.constant RX7 326 (-1000010) ∈ wsX7_row := mb_X7_row_wsX7_row_r1 (List.mem_of_getElem? (i := 15) rfl)
theorem mb_X7_row_wsX70 {w : Cond} (h : w ∈ wsX70) : w ∈ wsX7_row := by unfold wsX7_row; exact List.mem_cons_of_mem _ (List.mem_append_left _ (List.mem_append_right _ (h)))
theorem ggX7_row_X7_found : GoodIn wsX7_row wsX7_found := goodIn_sub (by unfold wsX7_found; exact List.forall_mem_cons.mpr ⟨mx_X7_row_14, List.forall_mem_append.mpr ⟨List.forall_mem_cons.mpr ⟨mx_X7_row_15, List.forall_mem_cons.mpr ⟨mx_X7_row_16, fun _ h_ => absurd h_ List.not_mem_nil⟩⟩, (fun _ h_ => mb_X7_row_wsX70 h_)⟩⟩) (by decide +kernel)
theorem mx_X7_row_10 : Cond.methodLink RX7 73 yX7_found ∈ wsX7_row := mb_X7_row_wsX7_row_r1 (List.mem_of_getElem? (i := 9) rfl)
theorem mx_X7_row_11 : Cond.instanceMethod yX7_found ∈ wsX7_row := mb_X7_row_wsX7_row_r1 (List.mem_of_getElem? (i := 10) rfl)
theorem mx_X7_row_12 : Cond.selects RX7 yX7_found yX7_found ∈ wsX7_row := mb_X7_row_wsX7_row_r1 (List.mem_of_getElem? (i := 11) rfl)
theorem mx_X7_row_13 : Cond.initialized RX7 ∈ wsX7_row := mb_X7_row_wsX7_row_r1 (List.mem_of_getElem? (i := 12) rfl)
theorem gX7_row_X7_found : GoodIn wsX7_row (wsV RX7 73 RX7 yX7_found wsX7_found) := goodIn_app (goodIn_sub (List.forall_mem_cons.mpr ⟨mx_X7_row_10, List.forall_mem_cons.mpr ⟨mx_X7_row_11, List.forall_mem_cons.mpr ⟨mx_X7_row_12, List.forall_mem_cons.mpr ⟨mx_X7_row_13, fun _ h_ => absurd h_ List.not_mem_nil⟩⟩⟩⟩) (by decide +kernel)) ggX7_row_X7_found
theorem mx_X7_row_31 : Cond.code yX7_foundNothing cX7_foundNothing 2 (some .int) ∈ wsX7_row := mb_X7_row_wsX7_row_r2 (List.mem_of_getElem? (i := 6) rfl)
theorem ggX7_row_X7_foundNothing : GoodIn wsX7_row wsX7_foundNothing := goodIn_sub (by unfold wsX7_foundNothing; exact List.forall_mem_cons.mpr ⟨mx_X7_row_31, List.forall_mem_append.mpr ⟨List.forall_mem_cons.mpr ⟨mx_X7_row_15, fun _ h_ => absurd h_ List.not_mem_nil⟩, (fun _ h_ => mb_X7_row_wsX70 h_)⟩⟩) (by decide +kernel)
theorem mx_X7_row_28 : Cond.methodLink RX7 81 yX7_foundNothing ∈ wsX7_row := mb_X7_row_wsX7_row_r2 (List.mem_of_getElem? (i := 3) rfl)
theorem mx_X7_row_29 : Cond.instanceMethod yX7_foundNothing ∈ wsX7_row := mb_X7_row_wsX7_row_r2 (List.mem_of_getElem? (i := 4) rfl)
theorem mx_X7_row_30 : Cond.selects RX7 yX7_foundNothing yX7_foundNothing ∈ wsX7_row := mb_X7_row_wsX7_row_r2 (List.mem_of_getElem? (i := 5) rfl)
theorem gX7_row_X7_foundNothing : GoodIn wsX7_row (wsV RX7 81 RX7 yX7_foundNothing wsX7_foundNothing) := goodIn_app (goodIn_sub (List.forall_mem_cons.mpr ⟨mx_X7_row_28, List.forall_mem_cons.mpr ⟨mx_X7_row_29, List.forall_mem_cons.mpr ⟨mx_X7_row_30, List.forall_mem_cons.mpr ⟨mx_X7_row_13, fun _ h_ => absurd h_ List.not_mem_nil⟩⟩⟩⟩) (by decide +kernel)) ggX7_row_X7_foundNothing
theorem mb_X7_set_wsX7_set_r1 {w : Cond} (h : w ∈ wsX7_set_r1) : w ∈ wsX7_set := by unfold wsX7_set; exact List.mem_cons_of_mem _ (List.mem_append_left _ (List.mem_append_left _ (List.mem_append_left _ (h))))
theorem mx_X7_set_10 : Cond.code yX5_findingOf cX5_findingOf 4 (some .int) ∈ wsX7_set := mb_X7_set_wsX7_set_r1 (List.mem_of_getElem? (i := 9) rfl)
theorem mx_X7_set_11 : Cond.methodLink RX5 29 yX5_isMissing ∈ wsX7_set := mb_X7_set_wsX7_set_r1 (List.mem_of_getElem? (i := 10) rfl)
theorem mx_X7_set_12 : Cond.instanceMethod yX5_isMissing ∈ wsX7_set := mb_X7_set_wsX7_set_r1 (List.mem_of_getElem? (i := 11) rfl)
theorem mx_X7_set_13 : Cond.selects RX5 yX5_isMissing yX5_isMissing ∈ wsX7_set := mb_X7_set_wsX7_set_r1 (List.mem_of_getElem? (i := 12) rfl)
theorem mx_X7_set_5 : Cond.initialized RX5 ∈ wsX7_set := mb_X7_set_wsX7_set_r1 (List.mem_of_getElem? (i := 4) rfl)
theorem mx_X7_set_14 : Cond.code yX5_isMissing cX5_isMissing 2 (some .boolean) ∈ wsX7_set := mb_X7_set_wsX7_set_r1 (List.mem_of_getElem? (i := 13) rfl)
theorem mx_X7_set_15 : Cond.fieldLink RX5 16 "MillTalk$Rows" "lanes" "[I" ∈ wsX7_set := mb_X7_set_wsX7_set_r1 (List.mem_of_getElem? (i := 14) rfl)
theorem mx_X7_set_16 : Cond.methodLink RX5 33 yX5_hasPlaces ∈ wsX7_set := mb_X7_set_wsX7_set_r1 (List.mem_of_getElem? (i := 15) rfl)
theorem mx_X7_set_17 : Cond.instanceMethod yX5_hasPlaces ∈ wsX7_set := mb_X7_set_wsX7_set_r1 (List.mem_of_getElem? (i := 16) rfl)
theorem mx_X7_set_18 : Cond.selects RX5 yX5_hasPlaces yX5_hasPlaces ∈ wsX7_set := mb_X7_set_wsX7_set_r1 (List.mem_of_getElem? (i := 17) rfl)
theorem mx_X7_set_19 : Cond.code yX5_hasPlaces cX5_hasPlaces 4 (some .boolean) ∈ wsX7_set := mb_X7_set_wsX7_set_r1 (List.mem_of_getElem? (i := 18) rfl)
theorem mx_X7_set_20 : Cond.fieldLink RX5 20 "MillTalk$Rows" "lengths" "[I" ∈ wsX7_set := mb_X7_set_wsX7_set_r1 (List.mem_of_getElem? (i := 19) rfl)
theorem mb_X7_set_wsX50 {w : Cond} (h : w ∈ wsX50) : w ∈ wsX7_set := by unfold wsX7_set; exact List.mem_cons_of_mem _ (List.mem_append_right _ (h))
theorem ggX7_set_X5_findingOf : GoodIn wsX7_set wsX5_findingOf := goodIn_sub (by unfold wsX5_findingOf; exact List.forall_mem_cons.mpr ⟨mx_X7_set_10, List.forall_mem_append.mpr ⟨List.forall_mem_cons.mpr ⟨mx_X7_set_11, List.forall_mem_cons.mpr ⟨mx_X7_set_12, List.forall_mem_cons.mpr ⟨mx_X7_set_13, List.forall_mem_cons.mpr ⟨mx_X7_set_5, List.forall_mem_cons.mpr ⟨mx_X7_set_14, List.forall_mem_cons.mpr ⟨mx_X7_set_15, List.forall_mem_cons.mpr ⟨mx_X7_set_16, List.forall_mem_cons.mpr ⟨mx_X7_set_17, List.forall_mem_cons.mpr ⟨mx_X7_set_18, List.forall_mem_cons.mpr ⟨mx_X7_set_19, List.forall_mem_cons.mpr ⟨mx_X7_set_20, fun _ h_ => absurd h_ List.not_mem_nil⟩⟩⟩⟩⟩⟩⟩⟩⟩⟩⟩, (fun _ h_ => mb_X7_set_wsX50 h_)⟩⟩) (by decide +kernel)
theorem mx_X7_set_7 : Cond.methodLink RX7 84 yX5_findingOf ∈ wsX7_set := mb_X7_set_wsX7_set_r1 (List.mem_of_getElem? (i := 6) rfl)
theorem mx_X7_set_8 : Cond.instanceMethod yX5_findingOf ∈ wsX7_set := mb_X7_set_wsX7_set_r1 (List.mem_of_getElem? (i := 7) rfl)
theorem mx_X7_set_9 : Cond.selects RX5 yX5_findingOf yX5_findingOf ∈ wsX7_set := mb_X7_set_wsX7_set_r1 (List.mem_of_getElem? (i := 8) rfl)
theorem gX7_set_X5_findingOf : GoodIn wsX7_set (wsV RX7 84 RX5 yX5_findingOf wsX5_findingOf) := goodIn_app (goodIn_sub (List.forall_mem_cons.mpr ⟨mx_X7_set_7, List.forall_mem_cons.mpr ⟨mx_X7_set_8, List.forall_mem_cons.mpr ⟨mx_X7_set_9, List.forall_mem_cons.mpr ⟨mx_X7_set_5, fun _ h_ => absurd h_ List.not_mem_nil⟩⟩⟩⟩) (by decide +kernel)) ggX7_set_X5_findingOf
theorem mx_X7_set_6 : Cond.code yX5_isRow cX5_isRow 1 (some .boolean) ∈ wsX7_set := mb_X7_set_wsX7_set_r1 (List.mem_of_getElem? (i := 5) rfl)
theorem ggX7_set_X5_isRow : GoodIn wsX7_set wsX5_isRow := goodIn_sub (by unfold wsX5_isRow; exact List.forall_mem_cons.mpr ⟨mx_X7_set_6, fun _ h_ => absurd h_ List.not_mem_nil⟩) (by decide +kernel)
set_option maxRecDepth 20000 in
theorem gX7_set_X5_isRow : GoodIn wsX7_set (va_wsS RX7 65 yX5_isRow wsX5_isRow) := goodIn_app (goodIn_of _ (by decide +kernel)) ggX7_set_X5_isRow
theorem mb_X7_set_wsX7_set_r2 {w : Cond} (h : w ∈ wsX7_set_r2) : w ∈ wsX7_set := by unfold wsX7_set; exact List.mem_cons_of_mem _ (List.mem_append_left _ (List.mem_append_left _ (List.mem_append_right _ (h))))
theorem mx_X7_set_31 : Cond.code yX5_put cX5_put 5 (some .int) ∈ wsX7_set := mb_X7_set_wsX7_set_r2 (List.mem_of_getElem? (i := 6) rfl)
theorem mx_X7_set_32 : Cond.fieldLink RX5 13 "MillTalk$Rows" "items" "[[I" ∈ wsX7_set := mb_X7_set_wsX7_set_r2 (List.mem_of_getElem? (i := 7) rfl)
theorem ggX7_set_X5_put : GoodIn wsX7_set wsX5_put := goodIn_sub (by unfold wsX5_put; exact List.forall_mem_cons.mpr ⟨mx_X7_set_31, List.forall_mem_append.mpr ⟨List.forall_mem_cons.mpr ⟨mx_X7_set_15, List.forall_mem_cons.mpr ⟨mx_X7_set_32, fun _ h_ => absurd h_ List.not_mem_nil⟩⟩, (fun _ h_ => mb_X7_set_wsX50 h_)⟩⟩) (by decide +kernel)
theorem mx_X7_set_28 : Cond.methodLink RX7 88 yX5_put ∈ wsX7_set := mb_X7_set_wsX7_set_r2 (List.mem_of_getElem? (i := 3) rfl)
theorem mx_X7_set_29 : Cond.instanceMethod yX5_put ∈ wsX7_set := mb_X7_set_wsX7_set_r2 (List.mem_of_getElem? (i := 4) rfl)
theorem mx_X7_set_30 : Cond.selects RX5 yX5_put yX5_put ∈ wsX7_set := mb_X7_set_wsX7_set_r2 (List.mem_of_getElem? (i := 5) rfl)
theorem gX7_set_X5_put : GoodIn wsX7_set (wsV RX7 88 RX5 yX5_put wsX5_put) := goodIn_app (goodIn_sub (List.forall_mem_cons.mpr ⟨mx_X7_set_28, List.forall_mem_cons.mpr ⟨mx_X7_set_29, List.forall_mem_cons.mpr ⟨mx_X7_set_30, List.forall_mem_cons.mpr ⟨mx_X7_set_5, fun _ h_ => absurd h_ List.not_mem_nil⟩⟩⟩⟩) (by decide +kernel)) ggX7_set_X5_put
theorem mx_X7_set_25 : Cond.code yX7_found cX7_found 2 (some .int) ∈ wsX7_set := mb_X7_set_wsX7_set_r2 (List.mem_of_getElem? (i := 0) rfl)
theorem mx_X7_set_26 : Cond.fieldLink RX7 323 "MillTalk" "latestFinding" "I" ∈ wsX7_set := mb_X7_set_wsX7_set_r2 (List.mem_of_getElem? (i := 1) rfl)
theorem mx_X7_set_27 : Cond.constant RX7 326 (-1000010) ∈ wsX7_set := mb_X7_set_wsX7_set_r2 (List.mem_of_getElem? (i := 2) rfl)
theorem mb_X7_set_wsX70 {w : Cond} (h : w ∈ wsX70) : w ∈ wsX7_set := by unfold wsX7_set; exact List.mem_cons_of_mem _ (List.mem_append_left _ (List.mem_append_right _ (h)))
theorem ggX7_set_X7_found : GoodIn wsX7_set wsX7_found := goodIn_sub (by unfold wsX7_found; exact List.forall_mem_cons.mpr ⟨mx_X7_set_25, List.forall_mem_append.mpr ⟨List.forall_mem_cons.mpr ⟨mx_X7_set_26, List.forall_mem_cons.mpr ⟨mx_X7_set_27, fun _ h_ => absurd h_ List.not_mem_nil⟩⟩, (fun _ h_ => mb_X7_set_wsX70 h_)⟩⟩) (by decide +kernel)
theorem mx_X7_set_21 : Cond.methodLink RX7 73 yX7_found ∈ wsX7_set := mb_X7_set_wsX7_set_r1 (List.mem_of_getElem? (i := 20) rfl)
theorem mx_X7_set_22 : Cond.instanceMethod yX7_found ∈ wsX7_set := mb_X7_set_wsX7_set_r1 (List.mem_of_getElem? (i := 21) rfl)
theorem mx_X7_set_23 : Cond.selects RX7 yX7_found yX7_found ∈ wsX7_set := mb_X7_set_wsX7_set_r1 (List.mem_of_getElem? (i := 22) rfl)
theorem mx_X7_set_24 : Cond.initialized RX7 ∈ wsX7_set := mb_X7_set_wsX7_set_r1 (List.mem_of_getElem? (i := 23) rfl)
theorem gX7_set_X7_found : GoodIn wsX7_set (wsV RX7 73 RX7 yX7_found wsX7_found) := goodIn_app (goodIn_sub (List.forall_mem_cons.mpr ⟨mx_X7_set_21, List.forall_mem_cons.mpr ⟨mx_X7_set_22, List.forall_mem_cons.mpr ⟨mx_X7_set_23, List.forall_mem_cons.mpr ⟨mx_X7_set_24, fun _ h_ => absurd h_ List.not_mem_nil⟩⟩⟩⟩) (by decide +kernel)) ggX7_set_X7_found
theorem mx_X7_set_36 : Cond.code yX7_foundNothing cX7_foundNothing 2 (some .int) ∈ wsX7_set := mb_X7_set_wsX7_set_r2 (List.mem_of_getElem? (i := 11) rfl)
theorem ggX7_set_X7_foundNothing : GoodIn wsX7_set wsX7_foundNothing := goodIn_sub (by unfold wsX7_foundNothing; exact List.forall_mem_cons.mpr ⟨mx_X7_set_36, List.forall_mem_append.mpr ⟨List.forall_mem_cons.mpr ⟨mx_X7_set_26, fun _ h_ => absurd h_ List.not_mem_nil⟩, (fun _ h_ => mb_X7_set_wsX70 h_)⟩⟩) (by decide +kernel)
theorem mx_X7_set_33 : Cond.methodLink RX7 81 yX7_foundNothing ∈ wsX7_set := mb_X7_set_wsX7_set_r2 (List.mem_of_getElem? (i := 8) rfl)
theorem mx_X7_set_34 : Cond.instanceMethod yX7_foundNothing ∈ wsX7_set := mb_X7_set_wsX7_set_r2 (List.mem_of_getElem? (i := 9) rfl)
theorem mx_X7_set_35 : Cond.selects RX7 yX7_foundNothing yX7_foundNothing ∈ wsX7_set := mb_X7_set_wsX7_set_r2 (List.mem_of_getElem? (i := 10) rfl)
theorem gX7_set_X7_foundNothing : GoodIn wsX7_set (wsV RX7 81 RX7 yX7_foundNothing wsX7_foundNothing) := goodIn_app (goodIn_sub (List.forall_mem_cons.mpr ⟨mx_X7_set_33, List.forall_mem_cons.mpr ⟨mx_X7_set_34, List.forall_mem_cons.mpr ⟨mx_X7_set_35, List.forall_mem_cons.mpr ⟨mx_X7_set_24, fun _ h_ => absurd h_ List.not_mem_nil⟩⟩⟩⟩) (by decide +kernel)) ggX7_set_X7_foundNothing
theorem i_X4_comesTo_X4 : ∀ w ∈ u_ws RX4 TX4 3, w ∈ wsX4_comesTo := fun _ h_ => mb_X4_comesTo_wsX40 h_
theorem i_X7_as_X3 : ∀ w ∈ u_ws RX3 TX3 13, w ∈ wsX7_as := fun _ h_ => mb_X7_as_wsX30 h_
theorem i_X7_as_X7 : ∀ w ∈ u_ws RX7 TX7 11, w ∈ wsX7_as := fun _ h_ => mb_X7_as_wsX70 h_
theorem mb_X7_ask_wsX70 {w : Cond} (h : w ∈ wsX70) : w ∈ wsX7_ask := by unfold wsX7_ask; exact List.mem_cons_of_mem _ (List.mem_append_left _ (List.mem_append_left _ (List.mem_append_right _ (h))))
theorem i_X7_ask_X7 : ∀ w ∈ u_ws RX7 TX7 11, w ∈ wsX7_ask := fun _ h_ => mb_X7_ask_wsX70 h_
theorem mb_X7_byTurns_wsX70 {w : Cond} (h : w ∈ wsX70) : w ∈ wsX7_byTurns := by unfold wsX7_byTurns; exact List.mem_cons_of_mem _ (List.mem_append_left _ (List.mem_append_left _ (List.mem_append_right _ (h))))
theorem i_X7_byTurns_X7 : ∀ w ∈ u_ws RX7 TX7 11, w ∈ wsX7_byTurns := fun _ h_ => mb_X7_byTurns_wsX70 h_
theorem i_X7_caps_X2 : ∀ w ∈ u_ws RX2 TX2 6, w ∈ wsX7_caps := fun _ h_ => mb_X7_caps_wsX20 h_
theorem mb_X7_caps_wsX70 {w : Cond} (h : w ∈ wsX70) : w ∈ wsX7_caps := by unfold wsX7_caps; exact List.mem_cons_of_mem _ (List.mem_append_left _ (List.mem_append_left _ (List.mem_append_right _ (h))))
theorem i_X7_caps_X7 : ∀ w ∈ u_ws RX7 TX7 11, w ∈ wsX7_caps := fun _ h_ => mb_X7_caps_wsX70 h_
theorem i_X7_copy_X7 : ∀ w ∈ u_ws RX7 TX7 11, w ∈ wsX7_copy := fun _ h_ => mb_X7_copy_wsX70 h_
theorem i_X7_drop_X7 : ∀ w ∈ u_ws RX7 TX7 11, w ∈ wsX7_drop := fun _ h_ => mb_X7_drop_wsX70 h_
theorem mb_X7_feed_wsX70 {w : Cond} (h : w ∈ wsX70) : w ∈ wsX7_feed := by unfold wsX7_feed; exact List.mem_cons_of_mem _ (List.mem_append_left _ (List.mem_append_right _ (h)))
theorem i_X7_feed_X7 : ∀ w ∈ u_ws RX7 TX7 11, w ∈ wsX7_feed := fun _ h_ => mb_X7_feed_wsX70 h_
theorem i_X7_had_X2 : ∀ w ∈ u_ws RX2 TX2 6, w ∈ wsX7_had := fun _ h_ => mb_X7_had_wsX20 h_
theorem i_X7_had_X3 : ∀ w ∈ u_ws RX3 TX3 13, w ∈ wsX7_had := fun _ h_ => mb_X7_had_wsX30 h_
theorem mb_X7_had_wsX70 {w : Cond} (h : w ∈ wsX70) : w ∈ wsX7_had := by unfold wsX7_had; exact List.mem_cons_of_mem _ (List.mem_append_left _ (List.mem_append_left _ (List.mem_append_right _ (h))))
theorem i_X7_had_X7 : ∀ w ∈ u_ws RX7 TX7 11, w ∈ wsX7_had := fun _ h_ => mb_X7_had_wsX70 h_
theorem i_X7_level_X3 : ∀ w ∈ u_ws RX3 TX3 13, w ∈ wsX7_level := fun _ h_ => mb_X7_level_wsX30 h_
theorem i_X7_level_X6 : ∀ w ∈ u_ws RX6 TX6 6, w ∈ wsX7_level := fun _ h_ => mb_X7_level_wsX60 h_
theorem mb_X7_level_wsX70 {w : Cond} (h : w ∈ wsX70) : w ∈ wsX7_level := by unfold wsX7_level; exact List.mem_cons_of_mem _ (List.mem_append_left _ (List.mem_append_left _ (List.mem_append_left _ (List.mem_append_right _ (h)))))
theorem i_X7_level_X7 : ∀ w ∈ u_ws RX7 TX7 11, w ∈ wsX7_level := fun _ h_ => mb_X7_level_wsX70 h_
theorem i_X7_row_X7 : ∀ w ∈ u_ws RX7 TX7 11, w ∈ wsX7_row := fun _ h_ => mb_X7_row_wsX70 h_
theorem i_X7_set_X7 : ∀ w ∈ u_ws RX7 TX7 11, w ∈ wsX7_set := fun _ h_ => mb_X7_set_wsX70 h_
theorem mx_X7_feed_1 : Cond.constant RX7 72 (-1000001) ∈ wsX7_feed := by unfold wsX7_feed; exact List.mem_cons_of_mem _ (List.mem_append_left _ (List.mem_append_left _ (List.mem_of_getElem? (i := 0) rfl)))
theorem mx_X7_feed_2 : Cond.fieldLink RX7 19 "MillTalk" "tape" "LMillTalk$Tape;" ∈ wsX7_feed := by unfold wsX7_feed; exact List.mem_cons_of_mem _ (List.mem_append_left _ (List.mem_append_left _ (List.mem_of_getElem? (i := 1) rfl)))
theorem mx_X7_feed_3 : Cond.constant RX7 109 (-1000003) ∈ wsX7_feed := by unfold wsX7_feed; exact List.mem_cons_of_mem _ (List.mem_append_left _ (List.mem_append_left _ (List.mem_of_getElem? (i := 2) rfl)))
theorem mx_X7_level_1 : Cond.fieldLink RX7 19 "MillTalk" "tape" "LMillTalk$Tape;" ∈ wsX7_level := mb_X7_level_wsX7_level_r1 (List.mem_of_getElem? (i := 0) rfl)
theorem mx_X7_level_5 : Cond.fieldLink RX7 26 "MillTalk" "now" "LMillTalk$Level;" ∈ wsX7_level := mb_X7_level_wsX7_level_r1 (List.mem_of_getElem? (i := 4) rfl)
theorem mx_X7_level_6 : Cond.fieldLink RX7 125 "MillTalk$Tape" "told" "LMillTalk$Level;" ∈ wsX7_level := mb_X7_level_wsX7_level_r1 (List.mem_of_getElem? (i := 5) rfl)
theorem mx_X7_level_7 : Cond.fieldLink RX7 33 "MillTalk" "acts" "LMillTalk$Acts;" ∈ wsX7_level := mb_X7_level_wsX7_level_r1 (List.mem_of_getElem? (i := 6) rfl)
theorem mx_X7_level_8 : Cond.fieldLink RX7 135 "MillTalk$Level" "soundCount" "I" ∈ wsX7_level := mb_X7_level_wsX7_level_r1 (List.mem_of_getElem? (i := 7) rfl)
theorem mx_X7_level_2 : Cond.fieldLink RX7 117 "MillTalk" "latestFault" "I" ∈ wsX7_level := mb_X7_level_wsX7_level_r1 (List.mem_of_getElem? (i := 1) rfl)
theorem mx_X7_level_3 : Cond.constant RX7 121 (-1000100) ∈ wsX7_level := mb_X7_level_wsX7_level_r1 (List.mem_of_getElem? (i := 2) rfl)
theorem mx_X7_level_4 : Cond.fieldLink RX7 122 "MillTalk$Tape" "faultPlace" "I" ∈ wsX7_level := mb_X7_level_wsX7_level_r1 (List.mem_of_getElem? (i := 3) rfl)
theorem mx_X7_row_1 : Cond.constant RX7 72 (-1000001) ∈ wsX7_row := mb_X7_row_wsX7_row_r1 (List.mem_of_getElem? (i := 0) rfl)
theorem mx_X7_row_2 : Cond.fieldLink RX7 10 "MillTalk" "rows" "LMillTalk$Rows;" ∈ wsX7_row := mb_X7_row_wsX7_row_r1 (List.mem_of_getElem? (i := 1) rfl)
theorem mx_X7_set_1 : Cond.constant RX7 72 (-1000001) ∈ wsX7_set := mb_X7_set_wsX7_set_r1 (List.mem_of_getElem? (i := 0) rfl)
theorem mx_X7_set_2 : Cond.fieldLink RX7 10 "MillTalk" "rows" "LMillTalk$Rows;" ∈ wsX7_set := mb_X7_set_wsX7_set_r1 (List.mem_of_getElem? (i := 1) rfl)
theorem mx_X7_copy_1 : Cond.constant RX7 72 (-1000001) ∈ wsX7_copy := mb_X7_copy_wsX7_copy_r1 (List.mem_of_getElem? (i := 0) rfl)
theorem mx_X7_copy_2 : Cond.fieldLink RX7 10 "MillTalk" "rows" "LMillTalk$Rows;" ∈ wsX7_copy := mb_X7_copy_wsX7_copy_r1 (List.mem_of_getElem? (i := 1) rfl)
theorem mx_X7_drop_1 : Cond.constant RX7 72 (-1000001) ∈ wsX7_drop := mb_X7_drop_wsX7_drop_r1 (List.mem_of_getElem? (i := 0) rfl)
theorem mx_X7_drop_2 : Cond.fieldLink RX7 10 "MillTalk" "rows" "LMillTalk$Rows;" ∈ wsX7_drop := mb_X7_drop_wsX7_drop_r1 (List.mem_of_getElem? (i := 1) rfl)
theorem mx_X7_as_1 : Cond.fieldLink RX7 26 "MillTalk" "now" "LMillTalk$Level;" ∈ wsX7_as := by unfold wsX7_as; exact List.mem_cons_of_mem _ (List.mem_append_left _ (List.mem_append_left _ (List.mem_of_getElem? (i := 0) rfl)))
theorem mx_X7_as_2 : Cond.constant RX7 72 (-1000001) ∈ wsX7_as := by unfold wsX7_as; exact List.mem_cons_of_mem _ (List.mem_append_left _ (List.mem_append_left _ (List.mem_of_getElem? (i := 1) rfl)))
theorem mx_X7_as_3 : Cond.fieldLink RX7 301 "MillTalk$Level" "kinds" "[I" ∈ wsX7_as := by unfold wsX7_as; exact List.mem_cons_of_mem _ (List.mem_append_left _ (List.mem_append_left _ (List.mem_of_getElem? (i := 2) rfl)))
theorem mx_X7_ask_1 : Cond.fieldLink RX7 26 "MillTalk" "now" "LMillTalk$Level;" ∈ wsX7_ask := mb_X7_ask_wsX7_ask_r1 (List.mem_of_getElem? (i := 0) rfl)
theorem mx_X7_ask_2 : Cond.constant RX7 72 (-1000001) ∈ wsX7_ask := mb_X7_ask_wsX7_ask_r1 (List.mem_of_getElem? (i := 1) rfl)
theorem mx_X7_ask_3 : Cond.fieldLink RX7 61 "MillTalk" "asks" "LMillTalk$Asks;" ∈ wsX7_ask := mb_X7_ask_wsX7_ask_r1 (List.mem_of_getElem? (i := 2) rfl)
theorem mx_X7_caps_1 : Cond.fieldLink RX7 26 "MillTalk" "now" "LMillTalk$Level;" ∈ wsX7_caps := mb_X7_caps_wsX7_caps_r1 (List.mem_of_getElem? (i := 0) rfl)
theorem mx_X7_caps_2 : Cond.constant RX7 141 (-1000002) ∈ wsX7_caps := mb_X7_caps_wsX7_caps_r1 (List.mem_of_getElem? (i := 1) rfl)
theorem mx_X7_caps_3 : Cond.constant RX7 72 (-1000001) ∈ wsX7_caps := mb_X7_caps_wsX7_caps_r1 (List.mem_of_getElem? (i := 2) rfl)
theorem mx_X7_caps_5 : Cond.fieldLink RX7 54 "MillTalk" "capSearch" "LMillTalk$CapSearch;" ∈ wsX7_caps := mb_X7_caps_wsX7_caps_r1 (List.mem_of_getElem? (i := 4) rfl)
theorem mx_X7_caps_7 : Cond.fieldLink RX7 231 "MillTalk$CapSearch" "bestTurns" "I" ∈ wsX7_caps := mb_X7_caps_wsX7_caps_r1 (List.mem_of_getElem? (i := 6) rfl)
theorem mx_X7_caps_6 : Cond.fieldLink RX7 228 "MillTalk$CapSearch" "bestWorth" "I" ∈ wsX7_caps := mb_X7_caps_wsX7_caps_r1 (List.mem_of_getElem? (i := 5) rfl)
theorem mx_X7_caps_4 : Cond.constant RX7 220 (-1000000) ∈ wsX7_caps := mb_X7_caps_wsX7_caps_r1 (List.mem_of_getElem? (i := 3) rfl)
theorem mx_X7_had_1 : Cond.fieldLink RX7 26 "MillTalk" "now" "LMillTalk$Level;" ∈ wsX7_had := mb_X7_had_wsX7_had_r1 (List.mem_of_getElem? (i := 0) rfl)
theorem mx_X7_had_2 : Cond.constant RX7 141 (-1000002) ∈ wsX7_had := mb_X7_had_wsX7_had_r1 (List.mem_of_getElem? (i := 1) rfl)
theorem mx_X7_had_4 : Cond.constant RX7 72 (-1000001) ∈ wsX7_had := mb_X7_had_wsX7_had_r1 (List.mem_of_getElem? (i := 3) rfl)
theorem mx_X7_had_3 : Cond.fieldLink RX7 135 "MillTalk$Level" "soundCount" "I" ∈ wsX7_had := mb_X7_had_wsX7_had_r1 (List.mem_of_getElem? (i := 2) rfl)
theorem mx_X7_had_5 : Cond.fieldLink RX7 54 "MillTalk" "capSearch" "LMillTalk$CapSearch;" ∈ wsX7_had := mb_X7_had_wsX7_had_r1 (List.mem_of_getElem? (i := 4) rfl)
theorem mx_X7_had_6 : Cond.fieldLink RX7 228 "MillTalk$CapSearch" "bestWorth" "I" ∈ wsX7_had := mb_X7_had_wsX7_had_r1 (List.mem_of_getElem? (i := 5) rfl)
theorem mx_X7_had_8 : Cond.fieldLink RX7 231 "MillTalk$CapSearch" "bestTurns" "I" ∈ wsX7_had := mb_X7_had_wsX7_had_r1 (List.mem_of_getElem? (i := 7) rfl)
theorem mx_X7_had_7 : Cond.constant RX7 220 (-1000000) ∈ wsX7_had := mb_X7_had_wsX7_had_r1 (List.mem_of_getElem? (i := 6) rfl)
theorem mx_X7_byTurns_1 : Cond.fieldLink RX7 26 "MillTalk" "now" "LMillTalk$Level;" ∈ wsX7_byTurns := mb_X7_byTurns_wsX7_byTurns_r1 (List.mem_of_getElem? (i := 0) rfl)
theorem mx_X7_byTurns_2 : Cond.constant RX7 141 (-1000002) ∈ wsX7_byTurns := mb_X7_byTurns_wsX7_byTurns_r1 (List.mem_of_getElem? (i := 1) rfl)
theorem mx_X7_byTurns_3 : Cond.constant RX7 72 (-1000001) ∈ wsX7_byTurns := mb_X7_byTurns_wsX7_byTurns_r1 (List.mem_of_getElem? (i := 2) rfl)
theorem mx_X7_byTurns_4 : Cond.fieldLink RX7 47 "MillTalk" "play" "LMillTalk$Play;" ∈ wsX7_byTurns := mb_X7_byTurns_wsX7_byTurns_r1 (List.mem_of_getElem? (i := 3) rfl)
-- 41.mill4
theorem lf_X7_feed_1 {z : Nat} {fb : Nat → Int32} {k0 : Int32} (hz : z ≤ 120) (hokT : okT fb z) (c_1 : k0 < 0) : z ≤ 120 := by
  first
  | with_reducible exact hokT
  | with_reducible exact fd_z (Or.inl c_1)
  | with_reducible exact fd_b (Or.inl c_1)
  | with_reducible exact fd_a (Or.inl c_1)
  | omega
theorem lf_X7_feed_2 {z : Nat} {fb : Nat → Int32} {k0 : Int32} (hz : z ≤ 120) (hokT : okT fb z) (c_1 : k0 < 0) : z = sf_z z k0 := by
  first
  | with_reducible exact hokT
  | with_reducible exact fd_z (Or.inl c_1)
  | with_reducible exact fd_b (Or.inl c_1)
  | with_reducible exact fd_a (Or.inl c_1)
  | omega
theorem lf_X7_feed_3 {z : Nat} {fb : Nat → Int32} {k0 : Int32} (hz : z ≤ 120) (hokT : okT fb z) (c_1 : k0 < 0) : fb = sf_b fb z k0 := by
  first
  | with_reducible exact hokT
  | with_reducible exact fd_z (Or.inl c_1)
  | with_reducible exact fd_b (Or.inl c_1)
  | with_reducible exact fd_a (Or.inl c_1)
  | omega
theorem lf_X7_feed_4 {z : Nat} {fb : Nat → Int32} {k0 : Int32} (hz : z ≤ 120) (hokT : okT fb z) (c_1 : k0 < 0) : okT fb z := by
  first
  | with_reducible exact hokT
  | with_reducible exact fd_z (Or.inl c_1)
  | with_reducible exact fd_b (Or.inl c_1)
  | with_reducible exact fd_a (Or.inl c_1)
  | omega
theorem lf_X7_feed_5 {z : Nat} {fb : Nat → Int32} {k0 : Int32} (hz : z ≤ 120) (hokT : okT fb z) (c_1 : k0 < 0) : (-1000001) = (an_fd z k0) := by
  first
  | with_reducible exact hokT
  | with_reducible exact fd_z (Or.inl c_1)
  | with_reducible exact fd_b (Or.inl c_1)
  | with_reducible exact fd_a (Or.inl c_1)
  | omega
theorem lf_X7_feed_6 {z : Nat} {fb : Nat → Int32} {k0 : Int32} {zn_5 : Nat} {fbn_5 : Nat → Int32} {r_5 : Int32} (hz : z ≤ 120) (hokT : okT fb z) (c_1 : ¬ (k0 < 0)) (c_2 : k0 ≤ 255) (f_3_0_0 : z < 120) (hF_5_0 : zn_5 ≤ 120) (hF_5_1 : zn_5 = apz z) (hF_5_2 : fbn_5 = apb fb z k0) (h_5 : r_5 = (nI (apz z))) : zn_5 ≤ 120 := by
  first
  | with_reducible exact hokT
  | with_reducible exact fd_z (Or.inl c_1)
  | with_reducible exact fd_b (Or.inl c_1)
  | with_reducible exact fd_a (Or.inl c_1)
  | with_reducible exact fd_Z c_1 c_2 f_3_0_0 hF_5_1
  | with_reducible exact fd_B c_1 c_2 f_3_0_0 hF_5_2
  | with_reducible exact fd_T c_1 c_2 f_3_0_0 hF_5_1 hF_5_2 hokT
  | with_reducible exact fd_A c_1 c_2 f_3_0_0 h_5
  | with_reducible exact fd_z (Or.inr (Or.inl c_2))
  | with_reducible exact fd_b (Or.inr (Or.inl c_2))
  | with_reducible exact fd_a (Or.inr c_2)
  | omega
theorem lf_X7_feed_7 {z : Nat} {fb : Nat → Int32} {k0 : Int32} {zn_5 : Nat} {fbn_5 : Nat → Int32} {r_5 : Int32} (hz : z ≤ 120) (hokT : okT fb z) (c_1 : ¬ (k0 < 0)) (c_2 : k0 ≤ 255) (f_3_0_0 : z < 120) (hF_5_0 : zn_5 ≤ 120) (hF_5_1 : zn_5 = apz z) (hF_5_2 : fbn_5 = apb fb z k0) (h_5 : r_5 = (nI (apz z))) : zn_5 = sf_z z k0 := by
  first
  | with_reducible exact hokT
  | with_reducible exact fd_z (Or.inl c_1)
  | with_reducible exact fd_b (Or.inl c_1)
  | with_reducible exact fd_a (Or.inl c_1)
  | with_reducible exact fd_Z c_1 c_2 f_3_0_0 hF_5_1
  | with_reducible exact fd_B c_1 c_2 f_3_0_0 hF_5_2
  | with_reducible exact fd_T c_1 c_2 f_3_0_0 hF_5_1 hF_5_2 hokT
  | with_reducible exact fd_A c_1 c_2 f_3_0_0 h_5
  | with_reducible exact fd_z (Or.inr (Or.inl c_2))
  | with_reducible exact fd_b (Or.inr (Or.inl c_2))
  | with_reducible exact fd_a (Or.inr c_2)
  | omega
theorem lf_X7_feed_8 {z : Nat} {fb : Nat → Int32} {k0 : Int32} {zn_5 : Nat} {fbn_5 : Nat → Int32} {r_5 : Int32} (hz : z ≤ 120) (hokT : okT fb z) (c_1 : ¬ (k0 < 0)) (c_2 : k0 ≤ 255) (f_3_0_0 : z < 120) (hF_5_0 : zn_5 ≤ 120) (hF_5_1 : zn_5 = apz z) (hF_5_2 : fbn_5 = apb fb z k0) (h_5 : r_5 = (nI (apz z))) : fbn_5 = sf_b fb z k0 := by
  first
  | with_reducible exact hokT
  | with_reducible exact fd_z (Or.inl c_1)
  | with_reducible exact fd_b (Or.inl c_1)
  | with_reducible exact fd_a (Or.inl c_1)
  | with_reducible exact fd_Z c_1 c_2 f_3_0_0 hF_5_1
  | with_reducible exact fd_B c_1 c_2 f_3_0_0 hF_5_2
  | with_reducible exact fd_T c_1 c_2 f_3_0_0 hF_5_1 hF_5_2 hokT
  | with_reducible exact fd_A c_1 c_2 f_3_0_0 h_5
  | with_reducible exact fd_z (Or.inr (Or.inl c_2))
  | with_reducible exact fd_b (Or.inr (Or.inl c_2))
  | with_reducible exact fd_a (Or.inr c_2)
  | omega
theorem lf_X7_feed_9 {z : Nat} {fb : Nat → Int32} {k0 : Int32} {zn_5 : Nat} {fbn_5 : Nat → Int32} {r_5 : Int32} (hz : z ≤ 120) (hokT : okT fb z) (c_1 : ¬ (k0 < 0)) (c_2 : k0 ≤ 255) (f_3_0_0 : z < 120) (hF_5_0 : zn_5 ≤ 120) (hF_5_1 : zn_5 = apz z) (hF_5_2 : fbn_5 = apb fb z k0) (h_5 : r_5 = (nI (apz z))) : okT fbn_5 zn_5 := by
  first
  | with_reducible exact hokT
  | with_reducible exact fd_z (Or.inl c_1)
  | with_reducible exact fd_b (Or.inl c_1)
  | with_reducible exact fd_a (Or.inl c_1)
  | with_reducible exact fd_Z c_1 c_2 f_3_0_0 hF_5_1
  | with_reducible exact fd_B c_1 c_2 f_3_0_0 hF_5_2
  | with_reducible exact fd_T c_1 c_2 f_3_0_0 hF_5_1 hF_5_2 hokT
  | with_reducible exact fd_A c_1 c_2 f_3_0_0 h_5
  | with_reducible exact fd_z (Or.inr (Or.inl c_2))
  | with_reducible exact fd_b (Or.inr (Or.inl c_2))
  | with_reducible exact fd_a (Or.inr c_2)
  | omega
theorem lf_X7_feed_10 {z : Nat} {fb : Nat → Int32} {k0 : Int32} {zn_5 : Nat} {fbn_5 : Nat → Int32} {r_5 : Int32} (hz : z ≤ 120) (hokT : okT fb z) (c_1 : ¬ (k0 < 0)) (c_2 : k0 ≤ 255) (f_3_0_0 : z < 120) (hF_5_0 : zn_5 ≤ 120) (hF_5_1 : zn_5 = apz z) (hF_5_2 : fbn_5 = apb fb z k0) (h_5 : r_5 = (nI (apz z))) : r_5 = (an_fd z k0) := by
  first
  | with_reducible exact hokT
  | with_reducible exact fd_z (Or.inl c_1)
  | with_reducible exact fd_b (Or.inl c_1)
  | with_reducible exact fd_a (Or.inl c_1)
  | with_reducible exact fd_Z c_1 c_2 f_3_0_0 hF_5_1
  | with_reducible exact fd_B c_1 c_2 f_3_0_0 hF_5_2
  | with_reducible exact fd_T c_1 c_2 f_3_0_0 hF_5_1 hF_5_2 hokT
  | with_reducible exact fd_A c_1 c_2 f_3_0_0 h_5
  | with_reducible exact fd_z (Or.inr (Or.inl c_2))
  | with_reducible exact fd_b (Or.inr (Or.inl c_2))
  | with_reducible exact fd_a (Or.inr c_2)
  | omega
theorem lf_X7_feed_11 {z : Nat} {fb : Nat → Int32} {k0 : Int32} (hz : z ≤ 120) (hokT : okT fb z) (c_1 : ¬ (k0 < 0)) (c_2 : k0 ≤ 255) (f_3_1_0 : z = 120) : z ≤ 120 := by
  first
  | with_reducible exact hokT
  | with_reducible exact fd_z (Or.inl c_1)
  | with_reducible exact fd_b (Or.inl c_1)
  | with_reducible exact fd_a (Or.inl c_1)
  | with_reducible exact fd_z (Or.inr (Or.inr f_3_1_0))
  | with_reducible exact fd_b (Or.inr (Or.inr f_3_1_0))
  | with_reducible exact fd_f c_1 c_2 f_3_1_0
  | with_reducible exact fd_z (Or.inr (Or.inl c_2))
  | with_reducible exact fd_b (Or.inr (Or.inl c_2))
  | with_reducible exact fd_a (Or.inr c_2)
  | omega
theorem lf_X7_feed_12 {z : Nat} {fb : Nat → Int32} {k0 : Int32} (hz : z ≤ 120) (hokT : okT fb z) (c_1 : ¬ (k0 < 0)) (c_2 : k0 ≤ 255) (f_3_1_0 : z = 120) : z = sf_z z k0 := by
  first
  | with_reducible exact hokT
  | with_reducible exact fd_z (Or.inl c_1)
  | with_reducible exact fd_b (Or.inl c_1)
  | with_reducible exact fd_a (Or.inl c_1)
  | with_reducible exact fd_z (Or.inr (Or.inr f_3_1_0))
  | with_reducible exact fd_b (Or.inr (Or.inr f_3_1_0))
  | with_reducible exact fd_f c_1 c_2 f_3_1_0
  | with_reducible exact fd_z (Or.inr (Or.inl c_2))
  | with_reducible exact fd_b (Or.inr (Or.inl c_2))
  | with_reducible exact fd_a (Or.inr c_2)
  | omega
theorem lf_X7_feed_13 {z : Nat} {fb : Nat → Int32} {k0 : Int32} (hz : z ≤ 120) (hokT : okT fb z) (c_1 : ¬ (k0 < 0)) (c_2 : k0 ≤ 255) (f_3_1_0 : z = 120) : fb = sf_b fb z k0 := by
  first
  | with_reducible exact hokT
  | with_reducible exact fd_z (Or.inl c_1)
  | with_reducible exact fd_b (Or.inl c_1)
  | with_reducible exact fd_a (Or.inl c_1)
  | with_reducible exact fd_z (Or.inr (Or.inr f_3_1_0))
  | with_reducible exact fd_b (Or.inr (Or.inr f_3_1_0))
  | with_reducible exact fd_f c_1 c_2 f_3_1_0
  | with_reducible exact fd_z (Or.inr (Or.inl c_2))
  | with_reducible exact fd_b (Or.inr (Or.inl c_2))
  | with_reducible exact fd_a (Or.inr c_2)
  | omega
theorem lf_X7_feed_14 {z : Nat} {fb : Nat → Int32} {k0 : Int32} (hz : z ≤ 120) (hokT : okT fb z) (c_1 : ¬ (k0 < 0)) (c_2 : k0 ≤ 255) (f_3_1_0 : z = 120) : okT fb z := by
  first
  | with_reducible exact hokT
  | with_reducible exact fd_z (Or.inl c_1)
  | with_reducible exact fd_b (Or.inl c_1)
  | with_reducible exact fd_a (Or.inl c_1)
  | with_reducible exact fd_z (Or.inr (Or.inr f_3_1_0))
  | with_reducible exact fd_b (Or.inr (Or.inr f_3_1_0))
  | with_reducible exact fd_f c_1 c_2 f_3_1_0
  | with_reducible exact fd_z (Or.inr (Or.inl c_2))
  | with_reducible exact fd_b (Or.inr (Or.inl c_2))
  | with_reducible exact fd_a (Or.inr c_2)
  | omega
theorem lf_X7_feed_15 {z : Nat} {fb : Nat → Int32} {k0 : Int32} (hz : z ≤ 120) (hokT : okT fb z) (c_1 : ¬ (k0 < 0)) (c_2 : k0 ≤ 255) (f_3_1_0 : z = 120) : (-1000003) = (an_fd z k0) := by
  first
  | with_reducible exact hokT
  | with_reducible exact fd_z (Or.inl c_1)
  | with_reducible exact fd_b (Or.inl c_1)
  | with_reducible exact fd_a (Or.inl c_1)
  | with_reducible exact fd_z (Or.inr (Or.inr f_3_1_0))
  | with_reducible exact fd_b (Or.inr (Or.inr f_3_1_0))
  | with_reducible exact fd_f c_1 c_2 f_3_1_0
  | with_reducible exact fd_z (Or.inr (Or.inl c_2))
  | with_reducible exact fd_b (Or.inr (Or.inl c_2))
  | with_reducible exact fd_a (Or.inr c_2)
  | omega
theorem lf_X7_feed_16 {z : Nat} {fb : Nat → Int32} {k0 : Int32} (hz : z ≤ 120) (hokT : okT fb z) (c_1 : ¬ (k0 < 0)) (c_2 : ¬ (k0 ≤ 255)) : z ≤ 120 := by
  first
  | with_reducible exact hokT
  | with_reducible exact fd_z (Or.inl c_1)
  | with_reducible exact fd_b (Or.inl c_1)
  | with_reducible exact fd_a (Or.inl c_1)
  | with_reducible exact fd_z (Or.inr (Or.inl c_2))
  | with_reducible exact fd_b (Or.inr (Or.inl c_2))
  | with_reducible exact fd_a (Or.inr c_2)
  | omega
theorem lf_X7_feed_17 {z : Nat} {fb : Nat → Int32} {k0 : Int32} (hz : z ≤ 120) (hokT : okT fb z) (c_1 : ¬ (k0 < 0)) (c_2 : ¬ (k0 ≤ 255)) : z = sf_z z k0 := by
  first
  | with_reducible exact hokT
  | with_reducible exact fd_z (Or.inl c_1)
  | with_reducible exact fd_b (Or.inl c_1)
  | with_reducible exact fd_a (Or.inl c_1)
  | with_reducible exact fd_z (Or.inr (Or.inl c_2))
  | with_reducible exact fd_b (Or.inr (Or.inl c_2))
  | with_reducible exact fd_a (Or.inr c_2)
  | omega
theorem lf_X7_feed_18 {z : Nat} {fb : Nat → Int32} {k0 : Int32} (hz : z ≤ 120) (hokT : okT fb z) (c_1 : ¬ (k0 < 0)) (c_2 : ¬ (k0 ≤ 255)) : fb = sf_b fb z k0 := by
  first
  | with_reducible exact hokT
  | with_reducible exact fd_z (Or.inl c_1)
  | with_reducible exact fd_b (Or.inl c_1)
  | with_reducible exact fd_a (Or.inl c_1)
  | with_reducible exact fd_z (Or.inr (Or.inl c_2))
  | with_reducible exact fd_b (Or.inr (Or.inl c_2))
  | with_reducible exact fd_a (Or.inr c_2)
  | omega
theorem lf_X7_feed_19 {z : Nat} {fb : Nat → Int32} {k0 : Int32} (hz : z ≤ 120) (hokT : okT fb z) (c_1 : ¬ (k0 < 0)) (c_2 : ¬ (k0 ≤ 255)) : okT fb z := by
  first
  | with_reducible exact hokT
  | with_reducible exact fd_z (Or.inl c_1)
  | with_reducible exact fd_b (Or.inl c_1)
  | with_reducible exact fd_a (Or.inl c_1)
  | with_reducible exact fd_z (Or.inr (Or.inl c_2))
  | with_reducible exact fd_b (Or.inr (Or.inl c_2))
  | with_reducible exact fd_a (Or.inr c_2)
  | omega
theorem lf_X7_feed_20 {z : Nat} {fb : Nat → Int32} {k0 : Int32} (hz : z ≤ 120) (hokT : okT fb z) (c_1 : ¬ (k0 < 0)) (c_2 : ¬ (k0 ≤ 255)) : (-1000001) = (an_fd z k0) := by
  first
  | with_reducible exact hokT
  | with_reducible exact fd_z (Or.inl c_1)
  | with_reducible exact fd_b (Or.inl c_1)
  | with_reducible exact fd_a (Or.inl c_1)
  | with_reducible exact fd_z (Or.inr (Or.inl c_2))
  | with_reducible exact fd_b (Or.inr (Or.inl c_2))
  | with_reducible exact fd_a (Or.inr c_2)
  | omega
set_option maxHeartbeats 4000000 in
set_option maxRecDepth 100000 in
theorem r_X7_feed (l : Launch) (dC : Nat → ClassId) (dI : Nat → Nat → Nat) (cI cZ cL cJ : ClassId) (sz : Nat) (x : Nat) (ro : Nat) (ta : Nat) (no : Nat) (ac : Nat) (im : Nat) (tr : Nat) (pl : Nat) (cs : Nat) (ak : Nat) (xf : Int32) (xg : Int32) (bs : Nat) (td : Nat) (z : Nat) (fp : Int32) (f : Int32) (k : Int32) (fb : Nat → Int32) (k0 : Int32) (hz : z ≤ 120) (hokT : okT fb z) : Met l yX7_feed wsX7_feed ({ frames := 2, cells := 0, slots := 0, locals := 41 }) (va_Pc [.ref x, .int k0] (fun U => U.heap.size = sz ∧ va_P (dC, dI) vwCl [(xo_7_rrrrrrrrrii x ro ta no ac im tr pl cs ak xf xg), (xo_6_ririii ta bs (nI z) td fp f k), (xI bs cI 120 fb)] U.heap ∧ va_K (dC, dI) vwCl [(cI, .int), (cZ, .boolean), (cL, .object RX3), (cJ, .array .int)] U ∧ va_D (fun _ => True) [(xo_7_rrrrrrrrrii x ro ta no ac im tr pl cs ak xf xg), (xo_6_ririii ta bs (nI z) td fp f k), (xI bs cI 120 fb)])) (va_Qi (fun r (_ : Unit) => r = (an_fd z k0)) (fun (_ : Unit) t => ∃ (zn : Nat) (fbn : Nat → Int32), va_P (dC, dI) vwCl [(xo_7_rrrrrrrrrii x ro ta no ac im tr pl cs ak xf xg), (xo_6_ririii ta bs (nI zn) td fp f k), (xI bs cI 120 fbn)] t.heap ∧ va_D (va_A [(xo_7_rrrrrrrrrii x ro ta no ac im tr pl cs ak xf xg), (xo_6_ririii ta bs (nI z) td fp f k), (xI bs cI 120 fb)] sz) [(xo_7_rrrrrrrrrii x ro ta no ac im tr pl cs ak xf xg), (xo_6_ririii ta bs (nI zn) td fp f k), (xI bs cI 120 fbn)] ∧ zn ≤ 120 ∧ zn = sf_z z k0 ∧ fbn = sf_b fb z k0 ∧ okT fbn zn) (va_A [(xo_7_rrrrrrrrrii x ro ta no ac im tr pl cs ak xf xg), (xo_6_ririii ta bs (nI z) td fp f k), (xI bs cI 120 fb)] sz)) 0 0 (va_A [(xo_7_rrrrrrrrrii x ro ta no ac im tr pl cs ak xf xg), (xo_6_ririii ta bs (nI z) td fp f k), (xI bs cI 120 fb)] sz) := by
  refine Met.ofW (cc := cX7_feed) (maxL := 2) (ret := (some .int)) (by decide) rfl ?_
  intro p e s m args below meth c s₁ B hml hv
  obtain ⟨rfl, hsz, hP, hK, hD0⟩ := hv
  have hx := B.exec
  have hb := B.bytes
  have hr := B.returns
  have hts := atoms_spec (ws := wsX7_feed) B.pre
  have hown : s.vm.findClass RX7 = some m.cls := findClass_of_methodNamed B.named
  have hlocks := B.notSynchronized
  subst hsz
  have hD := hD0.self (sz := s.heap.size)
  generalize hAe : va_A [(xo_7_rrrrrrrrrii x ro ta no ac im tr pl cs ak xf xg), (xo_6_ririii ta bs (nI z) td fp f k), (xI bs cI 120 fb)] s.heap.size = A at hD ⊢
  have hA : ∀ q : Nat, s.heap.size ≤ q → A q := fun q h => by rw [← hAe]; exact Or.inr h
  have hS : va_S A s.heap s.heap [] := va_S.rf
  have hP : va_P (dC, dI) vwCl [(xo_7_rrrrrrrrrii x ro ta no ac im tr pl cs ak xf xg), (xo_6_ririii ta bs (nI z) td fp f k), (xI bs cI 120 fb)] s.heap := hP
  have hl := lv_entry ([.ref x, .int k0]) (n := 2) (Nat.le_of_ble_eq_true rfl)
  rw [lg_entry_eq]
  generalize (lg_sl ([.ref x, .int k0]) ++ List.replicate (2 - (lg_sl ([.ref x, .int k0])).length) Slot.unset).toArray = ls at hl ⊢
  have hl : lv_has ls 2 [(0, .ref x), (1, .int k0)] := hl
  refine lv_iload_n hx hb dX7_feed_0 rfl (lv_at hl 1 rfl) ?_
  refine lv_if_lt (tgt := 11) hx hb dX7_feed_1 (by decide) (fun c_1 => ?_) (fun c_1 => ?_)
  · skip
    refine lv_ldc (own := RX7) (v := (-1000001)) hx hb hown (hts _ mx_X7_feed_1) dX7_feed_11 ?_
    have hX9 := cut2 (wc := [(xo_7_rrrrrrrrrii x ro ta no ac im tr pl cs ak xf xg), (xo_6_ririii ta bs (nI z) td fp f k), (xI bs cI 120 fb)]) hP hD [0, 1, 2] (by decide +kernel) rfl
    exact W.iret (v := (-1000001)) hx hb hr (fun t ht hW => ⟨⟨(-1000001), (), rfl, (lf_X7_feed_5 hz hokT c_1), ⟨z, fb, va_Ht ht hX9.1, hX9.2, (lf_X7_feed_1 hz hokT c_1), (lf_X7_feed_2 hz hokT c_1), (lf_X7_feed_3 hz hokT c_1), (lf_X7_feed_4 hz hokT c_1)⟩⟩, hS.F ht⟩) hS.2.2 dX7_feed_13
  · skip
    refine lv_iload_n hx hb dX7_feed_4 rfl (lv_at hl 1 rfl) ?_
    refine lv_sipush (v := 255) hx hb dX7_feed_5 (by decide) ?_
    refine lv_icmp_le (tgt := 14) hx hb dX7_feed_8 (by decide) (fun c_2 => ?_) (fun c_2 => ?_)
    · skip
      refine lv_aload_n hx hb dX7_feed_14 rfl (lv_at hl 0 rfl) ?_
      refine va_get (D := (dC, dI)) (ci := 7) (v := .ref ta) (C := RX7) (T := TX7) (N := 11) hx hb hts i_X7_feed_X7 hown hK hP 0 rfl rfl 1 (by decide) (hts _ mx_X7_feed_2) (fun _ h9 => h9) rfl dX7_feed_15 ?_
      have hPc_3 := hP.sub (ws' := [(xo_6_ririii ta bs (nI z) td fp f k)]) [1] rfl
      refine vp_callSi (W.runV (As := []) (rest := []) ⟨hx, hb, hml, hown, hts⟩ (r_X6_isFull l dC dI cI cZ cL cJ ta bs td z fp f k (hz)) (cwV 0 hts gX7_feed_X6_isFull rfl rfl rfl (by decide +kernel) ⟨Nat.le_of_ble_eq_true rfl, Nat.le_of_ble_eq_true rfl⟩) (pvP 6 1 hK hP rfl rfl hPc_3) rfl rfl hl.1 rfl (lv_room (Nat.le_of_ble_eq_true rfl)) dX7_feed_18 ⟨Nat.le_of_ble_eq_true rfl, Nat.le_of_ble_eq_true rfl⟩) (fun r_3 h_3 => ?_)
      rcases h_3 with ⟨h_3, f_3_0_0⟩ | ⟨h_3, f_3_1_0⟩
      · subst h_3
        refine lv_if_eq (tgt := 27) hx hb dX7_feed_21 (by decide) (fun _ => ?_) (fun c_ => absurd (by decide) c_)
        refine lv_aload_n hx hb dX7_feed_27 rfl (lv_at hl 0 rfl) ?_
        refine va_get (D := (dC, dI)) (ci := 7) (v := .ref ta) (C := RX7) (T := TX7) (N := 11) hx hb hts i_X7_feed_X7 hown hK hP 0 rfl rfl 1 (by decide) (hts _ mx_X7_feed_2) (fun _ h9 => h9) rfl dX7_feed_28 ?_
        refine lv_iload_n hx hb dX7_feed_31 rfl (lv_at hl 1 rfl) ?_
        have hc_5 := cutW (wc := [(xo_6_ririii ta bs (nI z) td fp f k), (xI bs cI 120 fb)]) hP hD hS hA [1, 2] (by decide +kernel) rfl
        refine va_calli (va_runV (As := [.int k0]) (rest := []) ⟨hx, hb, hml, hown, hts⟩ (r_X6_append l dC dI cI cZ cL cJ s.heap.size ta bs td z fp f k fb k0 (hz)) (cwV 1 hts gX7_feed_X6_append rfl rfl rfl (by decide +kernel) ⟨Nat.le_of_ble_eq_true rfl, Nat.le_of_ble_eq_true rfl⟩) (pvW 6 1 hK hP rfl rfl hc_5) rfl rfl hl.1 rfl (lv_room (Nat.le_of_ble_eq_true rfl)) dX7_feed_32 ⟨Nat.le_of_ble_eq_true rfl, Nat.le_of_ble_eq_true rfl⟩) hS (fun q _ h => hc_5.2.2 q h) hc_5.2.2 (fun r_5 u_5 t_5 H1 locs ht hvm h_5 hB hz1 hk1 hS => ?_)
        refine xl_2_5 hB (fun zn_5 fbn_5 hP1 hD1 hF_5_0 hF_5_1 hF_5_2 => ?_)
        clear hB
        rw [ht] at hP1
        obtain ⟨hP, hD⟩ := va_join (wr := [(xo_7_rrrrrrrrrii x ro ta no ac im tr pl cs ak xf xg)]) (w1 := [(xo_6_ririii ta bs (nI zn_5) td fp f k), (xI bs cI 120 fbn_5)]) hP hD [1, 2] [0] rfl rfl (by decide +kernel) (by decide +kernel) hk1 hc_5.2.2 hP1 hD1
        generalize H1 = H at hP hS ⊢
        have hP : va_P (dC, dI) vwCl [(xo_7_rrrrrrrrrii x ro ta no ac im tr pl cs ak xf xg), (xo_6_ririii ta bs (nI zn_5) td fp f k), (xI bs cI 120 fbn_5)] H := hP
        have hD := dto hP hD
        have hX9 := cut2 (wc := [(xo_7_rrrrrrrrrii x ro ta no ac im tr pl cs ak xf xg), (xo_6_ririii ta bs (nI zn_5) td fp f k), (xI bs cI 120 fbn_5)]) hP hD [0, 1, 2] (by decide +kernel) rfl
        exact W.iret (v := r_5) hx hb hr (fun t ht hW => ⟨⟨r_5, (), rfl, (lf_X7_feed_10 hz hokT c_1 c_2 f_3_0_0 hF_5_0 hF_5_1 hF_5_2 h_5), ⟨zn_5, fbn_5, va_Ht ht hX9.1, hX9.2, (lf_X7_feed_6 hz hokT c_1 c_2 f_3_0_0 hF_5_0 hF_5_1 hF_5_2 h_5), (lf_X7_feed_7 hz hokT c_1 c_2 f_3_0_0 hF_5_0 hF_5_1 hF_5_2 h_5), (lf_X7_feed_8 hz hokT c_1 c_2 f_3_0_0 hF_5_0 hF_5_1 hF_5_2 h_5), (lf_X7_feed_9 hz hokT c_1 c_2 f_3_0_0 hF_5_0 hF_5_1 hF_5_2 h_5)⟩⟩, hS.F ht⟩) hS.2.2 dX7_feed_35
      · subst h_3
        refine lv_if_eq (tgt := 27) hx hb dX7_feed_21 (by decide) (fun c_ => absurd c_ (by decide)) (fun _ => ?_)
        refine lv_ldc (own := RX7) (v := (-1000003)) hx hb hown (hts _ mx_X7_feed_3) dX7_feed_24 ?_
        have hX9 := cut2 (wc := [(xo_7_rrrrrrrrrii x ro ta no ac im tr pl cs ak xf xg), (xo_6_ririii ta bs (nI z) td fp f k), (xI bs cI 120 fb)]) hP hD [0, 1, 2] (by decide +kernel) rfl
        exact W.iret (v := (-1000003)) hx hb hr (fun t ht hW => ⟨⟨(-1000003), (), rfl, (lf_X7_feed_15 hz hokT c_1 c_2 f_3_1_0), ⟨z, fb, va_Ht ht hX9.1, hX9.2, (lf_X7_feed_11 hz hokT c_1 c_2 f_3_1_0), (lf_X7_feed_12 hz hokT c_1 c_2 f_3_1_0), (lf_X7_feed_13 hz hokT c_1 c_2 f_3_1_0), (lf_X7_feed_14 hz hokT c_1 c_2 f_3_1_0)⟩⟩, hS.F ht⟩) hS.2.2 dX7_feed_26
    · skip
      refine lv_ldc (own := RX7) (v := (-1000001)) hx hb hown (hts _ mx_X7_feed_1) dX7_feed_11 ?_
      have hX9 := cut2 (wc := [(xo_7_rrrrrrrrrii x ro ta no ac im tr pl cs ak xf xg), (xo_6_ririii ta bs (nI z) td fp f k), (xI bs cI 120 fb)]) hP hD [0, 1, 2] (by decide +kernel) rfl
      exact W.iret (v := (-1000001)) hx hb hr (fun t ht hW => ⟨⟨(-1000001), (), rfl, (lf_X7_feed_20 hz hokT c_1 c_2), ⟨z, fb, va_Ht ht hX9.1, hX9.2, (lf_X7_feed_16 hz hokT c_1 c_2), (lf_X7_feed_17 hz hokT c_1 c_2), (lf_X7_feed_18 hz hokT c_1 c_2), (lf_X7_feed_19 hz hokT c_1 c_2)⟩⟩, hS.F ht⟩) hS.2.2 dX7_feed_13
theorem lf_X7_level_1 {z : Nat} {fb : Nat → Int32} {thh : Nat} {tww : Nat} {tkk : Nat} {tg1 : Nat → Int32} {tg2 : Nat → Int32} {tg3 : Nat → Int32} {tg4 : Nat → Int32} {tg5 : Nat → Int32} {nhh : Nat} {nww : Nat} {nkk : Nat} {az : Nat} {fpn_1 : Int32} {fn_1 : Int32} {kn_1 : Int32} {tv0n_1 : Int32} {tv1n_1 : Int32} {tv2n_1 : Int32} {twn_1 : Nat} {tkn_1 : Nat} {tg1n_1 : Nat → Int32} {tg2n_1 : Nat → Int32} {tg3n_1 : Nat → Int32} {tg4n_1 : Nat → Int32} {tg5n_1 : Nat → Int32} {r_1 : Int32} {f1n_3 : Nat → Int32} {f2n_3 : Nat → Int32} {f3n_3 : Nat → Int32} {f4n_3 : Nat → Int32} {f5n_3 : Nat → Int32} (hz : z ≤ 120) (thb : thh ≤ 999) (htww : tww ≤ 6) (htkk : tkk ≤ 6) (nhb : nhh ≤ 999) (nwb : nww ≤ 6) (nkb : nkk ≤ 6) (haz : az ≤ 24) (hokT : okT fb z) (hF_1_0 : twn_1 ≤ 6) (hF_1_1 : tkn_1 ≤ 6) (hF_1_2 : xRs fb z tg1 tg2 tg3 tg4 tg5 = ((fpn_1, fn_1, kn_1), tkn_1, tg2n_1, tg3n_1, tg4n_1, tg5n_1)) (hF_1_3 : (xRw fb z tg1).2 = (twn_1, tg1n_1)) (hF_1_4 : tv0n_1 = xL0 fb z (0, 0, 0)) (hF_1_5 : tv1n_1 = xL1 fb z (0, 0, 0)) (hF_1_6 : tv2n_1 = xL2 fb z (0, 0, 0)) (h_1 : r_1 = ((xRs fb z tg1 tg2 tg3 tg4 tg5).1.2.1)) (c_2 : r_1 = 0) (hF_3_0 : (∀ jq : Nat, jq < 6 → f1n_3 jq = tg1n_1 jq)) (hF_3_1 : (∀ jq : Nat, jq < 6 → f2n_3 jq = tg2n_1 jq)) (hF_3_2 : (∀ jq : Nat, jq < 6 → f3n_3 jq = tg3n_1 jq)) (hF_3_3 : (∀ jq : Nat, jq < 6 → f4n_3 jq = tg4n_1 jq)) (hF_3_4 : (∀ jq : Nat, jq < 6 → f5n_3 jq = tg5n_1 jq)) : 0 ≤ 999 := by
  first
  | omega
  | with_reducible rfl
  | with_reducible exact okT_0 _
  | with_reducible exact lx_f hz hokT h_1 c_2
  | with_reducible exact lx_n hz hokT h_1 c_2
  | with_reducible exact lx_L hz hokT h_1 c_2 hF_1_2 hF_1_3 hF_1_4 hF_1_5 hF_1_6 hF_1_0 hF_1_1 hF_3_0 hF_3_1 hF_3_2 hF_3_3 hF_3_4
  | with_reducible exact lx_A hz hokT h_1 c_2 hF_1_2
  | with_reducible exact lx_fn hz hokT h_1 c_2
  | with_reducible exact lx_l hz hokT h_1 c_2
  | with_reducible exact lx_nn hz hokT h_1 c_2
  | omega
theorem lf_X7_level_2 {z : Nat} {fb : Nat → Int32} {thh : Nat} {tww : Nat} {tkk : Nat} {tg1 : Nat → Int32} {tg2 : Nat → Int32} {tg3 : Nat → Int32} {tg4 : Nat → Int32} {tg5 : Nat → Int32} {nhh : Nat} {nww : Nat} {nkk : Nat} {az : Nat} {fpn_1 : Int32} {fn_1 : Int32} {kn_1 : Int32} {tv0n_1 : Int32} {tv1n_1 : Int32} {tv2n_1 : Int32} {twn_1 : Nat} {tkn_1 : Nat} {tg1n_1 : Nat → Int32} {tg2n_1 : Nat → Int32} {tg3n_1 : Nat → Int32} {tg4n_1 : Nat → Int32} {tg5n_1 : Nat → Int32} {r_1 : Int32} {f1n_3 : Nat → Int32} {f2n_3 : Nat → Int32} {f3n_3 : Nat → Int32} {f4n_3 : Nat → Int32} {f5n_3 : Nat → Int32} (hz : z ≤ 120) (thb : thh ≤ 999) (htww : tww ≤ 6) (htkk : tkk ≤ 6) (nhb : nhh ≤ 999) (nwb : nww ≤ 6) (nkb : nkk ≤ 6) (haz : az ≤ 24) (hokT : okT fb z) (hF_1_0 : twn_1 ≤ 6) (hF_1_1 : tkn_1 ≤ 6) (hF_1_2 : xRs fb z tg1 tg2 tg3 tg4 tg5 = ((fpn_1, fn_1, kn_1), tkn_1, tg2n_1, tg3n_1, tg4n_1, tg5n_1)) (hF_1_3 : (xRw fb z tg1).2 = (twn_1, tg1n_1)) (hF_1_4 : tv0n_1 = xL0 fb z (0, 0, 0)) (hF_1_5 : tv1n_1 = xL1 fb z (0, 0, 0)) (hF_1_6 : tv2n_1 = xL2 fb z (0, 0, 0)) (h_1 : r_1 = ((xRs fb z tg1 tg2 tg3 tg4 tg5).1.2.1)) (c_2 : r_1 = 0) (hF_3_0 : (∀ jq : Nat, jq < 6 → f1n_3 jq = tg1n_1 jq)) (hF_3_1 : (∀ jq : Nat, jq < 6 → f2n_3 jq = tg2n_1 jq)) (hF_3_2 : (∀ jq : Nat, jq < 6 → f3n_3 jq = tg3n_1 jq)) (hF_3_3 : (∀ jq : Nat, jq < 6 → f4n_3 jq = tg4n_1 jq)) (hF_3_4 : (∀ jq : Nat, jq < 6 → f5n_3 jq = tg5n_1 jq)) : twn_1 ≤ 6 := by
  first
  | omega
  | with_reducible rfl
  | with_reducible exact okT_0 _
  | with_reducible exact lx_f hz hokT h_1 c_2
  | with_reducible exact lx_n hz hokT h_1 c_2
  | with_reducible exact lx_L hz hokT h_1 c_2 hF_1_2 hF_1_3 hF_1_4 hF_1_5 hF_1_6 hF_1_0 hF_1_1 hF_3_0 hF_3_1 hF_3_2 hF_3_3 hF_3_4
  | with_reducible exact lx_A hz hokT h_1 c_2 hF_1_2
  | with_reducible exact lx_fn hz hokT h_1 c_2
  | with_reducible exact lx_l hz hokT h_1 c_2
  | with_reducible exact lx_nn hz hokT h_1 c_2
  | omega
theorem lf_X7_level_3 {z : Nat} {fb : Nat → Int32} {thh : Nat} {tww : Nat} {tkk : Nat} {tg1 : Nat → Int32} {tg2 : Nat → Int32} {tg3 : Nat → Int32} {tg4 : Nat → Int32} {tg5 : Nat → Int32} {nhh : Nat} {nww : Nat} {nkk : Nat} {az : Nat} {fpn_1 : Int32} {fn_1 : Int32} {kn_1 : Int32} {tv0n_1 : Int32} {tv1n_1 : Int32} {tv2n_1 : Int32} {twn_1 : Nat} {tkn_1 : Nat} {tg1n_1 : Nat → Int32} {tg2n_1 : Nat → Int32} {tg3n_1 : Nat → Int32} {tg4n_1 : Nat → Int32} {tg5n_1 : Nat → Int32} {r_1 : Int32} {f1n_3 : Nat → Int32} {f2n_3 : Nat → Int32} {f3n_3 : Nat → Int32} {f4n_3 : Nat → Int32} {f5n_3 : Nat → Int32} (hz : z ≤ 120) (thb : thh ≤ 999) (htww : tww ≤ 6) (htkk : tkk ≤ 6) (nhb : nhh ≤ 999) (nwb : nww ≤ 6) (nkb : nkk ≤ 6) (haz : az ≤ 24) (hokT : okT fb z) (hF_1_0 : twn_1 ≤ 6) (hF_1_1 : tkn_1 ≤ 6) (hF_1_2 : xRs fb z tg1 tg2 tg3 tg4 tg5 = ((fpn_1, fn_1, kn_1), tkn_1, tg2n_1, tg3n_1, tg4n_1, tg5n_1)) (hF_1_3 : (xRw fb z tg1).2 = (twn_1, tg1n_1)) (hF_1_4 : tv0n_1 = xL0 fb z (0, 0, 0)) (hF_1_5 : tv1n_1 = xL1 fb z (0, 0, 0)) (hF_1_6 : tv2n_1 = xL2 fb z (0, 0, 0)) (h_1 : r_1 = ((xRs fb z tg1 tg2 tg3 tg4 tg5).1.2.1)) (c_2 : r_1 = 0) (hF_3_0 : (∀ jq : Nat, jq < 6 → f1n_3 jq = tg1n_1 jq)) (hF_3_1 : (∀ jq : Nat, jq < 6 → f2n_3 jq = tg2n_1 jq)) (hF_3_2 : (∀ jq : Nat, jq < 6 → f3n_3 jq = tg3n_1 jq)) (hF_3_3 : (∀ jq : Nat, jq < 6 → f4n_3 jq = tg4n_1 jq)) (hF_3_4 : (∀ jq : Nat, jq < 6 → f5n_3 jq = tg5n_1 jq)) : tkn_1 ≤ 6 := by
  first
  | omega
  | with_reducible rfl
  | with_reducible exact okT_0 _
  | with_reducible exact lx_f hz hokT h_1 c_2
  | with_reducible exact lx_n hz hokT h_1 c_2
  | with_reducible exact lx_L hz hokT h_1 c_2 hF_1_2 hF_1_3 hF_1_4 hF_1_5 hF_1_6 hF_1_0 hF_1_1 hF_3_0 hF_3_1 hF_3_2 hF_3_3 hF_3_4
  | with_reducible exact lx_A hz hokT h_1 c_2 hF_1_2
  | with_reducible exact lx_fn hz hokT h_1 c_2
  | with_reducible exact lx_l hz hokT h_1 c_2
  | with_reducible exact lx_nn hz hokT h_1 c_2
  | omega
theorem lf_X7_level_4 {z : Nat} {fb : Nat → Int32} {thh : Nat} {tww : Nat} {tkk : Nat} {tg1 : Nat → Int32} {tg2 : Nat → Int32} {tg3 : Nat → Int32} {tg4 : Nat → Int32} {tg5 : Nat → Int32} {nhh : Nat} {nww : Nat} {nkk : Nat} {az : Nat} {fpn_1 : Int32} {fn_1 : Int32} {kn_1 : Int32} {tv0n_1 : Int32} {tv1n_1 : Int32} {tv2n_1 : Int32} {twn_1 : Nat} {tkn_1 : Nat} {tg1n_1 : Nat → Int32} {tg2n_1 : Nat → Int32} {tg3n_1 : Nat → Int32} {tg4n_1 : Nat → Int32} {tg5n_1 : Nat → Int32} {r_1 : Int32} {f1n_3 : Nat → Int32} {f2n_3 : Nat → Int32} {f3n_3 : Nat → Int32} {f4n_3 : Nat → Int32} {f5n_3 : Nat → Int32} (hz : z ≤ 120) (thb : thh ≤ 999) (htww : tww ≤ 6) (htkk : tkk ≤ 6) (nhb : nhh ≤ 999) (nwb : nww ≤ 6) (nkb : nkk ≤ 6) (haz : az ≤ 24) (hokT : okT fb z) (hF_1_0 : twn_1 ≤ 6) (hF_1_1 : tkn_1 ≤ 6) (hF_1_2 : xRs fb z tg1 tg2 tg3 tg4 tg5 = ((fpn_1, fn_1, kn_1), tkn_1, tg2n_1, tg3n_1, tg4n_1, tg5n_1)) (hF_1_3 : (xRw fb z tg1).2 = (twn_1, tg1n_1)) (hF_1_4 : tv0n_1 = xL0 fb z (0, 0, 0)) (hF_1_5 : tv1n_1 = xL1 fb z (0, 0, 0)) (hF_1_6 : tv2n_1 = xL2 fb z (0, 0, 0)) (h_1 : r_1 = ((xRs fb z tg1 tg2 tg3 tg4 tg5).1.2.1)) (c_2 : r_1 = 0) (hF_3_0 : (∀ jq : Nat, jq < 6 → f1n_3 jq = tg1n_1 jq)) (hF_3_1 : (∀ jq : Nat, jq < 6 → f2n_3 jq = tg2n_1 jq)) (hF_3_2 : (∀ jq : Nat, jq < 6 → f3n_3 jq = tg3n_1 jq)) (hF_3_3 : (∀ jq : Nat, jq < 6 → f4n_3 jq = tg4n_1 jq)) (hF_3_4 : (∀ jq : Nat, jq < 6 → f5n_3 jq = tg5n_1 jq)) : 0 ≤ 999 := by
  first
  | omega
  | with_reducible rfl
  | with_reducible exact okT_0 _
  | with_reducible exact lx_f hz hokT h_1 c_2
  | with_reducible exact lx_n hz hokT h_1 c_2
  | with_reducible exact lx_L hz hokT h_1 c_2 hF_1_2 hF_1_3 hF_1_4 hF_1_5 hF_1_6 hF_1_0 hF_1_1 hF_3_0 hF_3_1 hF_3_2 hF_3_3 hF_3_4
  | with_reducible exact lx_A hz hokT h_1 c_2 hF_1_2
  | with_reducible exact lx_fn hz hokT h_1 c_2
  | with_reducible exact lx_l hz hokT h_1 c_2
  | with_reducible exact lx_nn hz hokT h_1 c_2
  | omega
theorem lf_X7_level_5 {z : Nat} {fb : Nat → Int32} {thh : Nat} {tww : Nat} {tkk : Nat} {tg1 : Nat → Int32} {tg2 : Nat → Int32} {tg3 : Nat → Int32} {tg4 : Nat → Int32} {tg5 : Nat → Int32} {nhh : Nat} {nww : Nat} {nkk : Nat} {az : Nat} {fpn_1 : Int32} {fn_1 : Int32} {kn_1 : Int32} {tv0n_1 : Int32} {tv1n_1 : Int32} {tv2n_1 : Int32} {twn_1 : Nat} {tkn_1 : Nat} {tg1n_1 : Nat → Int32} {tg2n_1 : Nat → Int32} {tg3n_1 : Nat → Int32} {tg4n_1 : Nat → Int32} {tg5n_1 : Nat → Int32} {r_1 : Int32} {f1n_3 : Nat → Int32} {f2n_3 : Nat → Int32} {f3n_3 : Nat → Int32} {f4n_3 : Nat → Int32} {f5n_3 : Nat → Int32} (hz : z ≤ 120) (thb : thh ≤ 999) (htww : tww ≤ 6) (htkk : tkk ≤ 6) (nhb : nhh ≤ 999) (nwb : nww ≤ 6) (nkb : nkk ≤ 6) (haz : az ≤ 24) (hokT : okT fb z) (hF_1_0 : twn_1 ≤ 6) (hF_1_1 : tkn_1 ≤ 6) (hF_1_2 : xRs fb z tg1 tg2 tg3 tg4 tg5 = ((fpn_1, fn_1, kn_1), tkn_1, tg2n_1, tg3n_1, tg4n_1, tg5n_1)) (hF_1_3 : (xRw fb z tg1).2 = (twn_1, tg1n_1)) (hF_1_4 : tv0n_1 = xL0 fb z (0, 0, 0)) (hF_1_5 : tv1n_1 = xL1 fb z (0, 0, 0)) (hF_1_6 : tv2n_1 = xL2 fb z (0, 0, 0)) (h_1 : r_1 = ((xRs fb z tg1 tg2 tg3 tg4 tg5).1.2.1)) (c_2 : r_1 = 0) (hF_3_0 : (∀ jq : Nat, jq < 6 → f1n_3 jq = tg1n_1 jq)) (hF_3_1 : (∀ jq : Nat, jq < 6 → f2n_3 jq = tg2n_1 jq)) (hF_3_2 : (∀ jq : Nat, jq < 6 → f3n_3 jq = tg3n_1 jq)) (hF_3_3 : (∀ jq : Nat, jq < 6 → f4n_3 jq = tg4n_1 jq)) (hF_3_4 : (∀ jq : Nat, jq < 6 → f5n_3 jq = tg5n_1 jq)) : twn_1 ≤ 6 := by
  first
  | omega
  | with_reducible rfl
  | with_reducible exact okT_0 _
  | with_reducible exact lx_f hz hokT h_1 c_2
  | with_reducible exact lx_n hz hokT h_1 c_2
  | with_reducible exact lx_L hz hokT h_1 c_2 hF_1_2 hF_1_3 hF_1_4 hF_1_5 hF_1_6 hF_1_0 hF_1_1 hF_3_0 hF_3_1 hF_3_2 hF_3_3 hF_3_4
  | with_reducible exact lx_A hz hokT h_1 c_2 hF_1_2
  | with_reducible exact lx_fn hz hokT h_1 c_2
  | with_reducible exact lx_l hz hokT h_1 c_2
  | with_reducible exact lx_nn hz hokT h_1 c_2
  | omega
theorem lf_X7_level_6 {z : Nat} {fb : Nat → Int32} {thh : Nat} {tww : Nat} {tkk : Nat} {tg1 : Nat → Int32} {tg2 : Nat → Int32} {tg3 : Nat → Int32} {tg4 : Nat → Int32} {tg5 : Nat → Int32} {nhh : Nat} {nww : Nat} {nkk : Nat} {az : Nat} {fpn_1 : Int32} {fn_1 : Int32} {kn_1 : Int32} {tv0n_1 : Int32} {tv1n_1 : Int32} {tv2n_1 : Int32} {twn_1 : Nat} {tkn_1 : Nat} {tg1n_1 : Nat → Int32} {tg2n_1 : Nat → Int32} {tg3n_1 : Nat → Int32} {tg4n_1 : Nat → Int32} {tg5n_1 : Nat → Int32} {r_1 : Int32} {f1n_3 : Nat → Int32} {f2n_3 : Nat → Int32} {f3n_3 : Nat → Int32} {f4n_3 : Nat → Int32} {f5n_3 : Nat → Int32} (hz : z ≤ 120) (thb : thh ≤ 999) (htww : tww ≤ 6) (htkk : tkk ≤ 6) (nhb : nhh ≤ 999) (nwb : nww ≤ 6) (nkb : nkk ≤ 6) (haz : az ≤ 24) (hokT : okT fb z) (hF_1_0 : twn_1 ≤ 6) (hF_1_1 : tkn_1 ≤ 6) (hF_1_2 : xRs fb z tg1 tg2 tg3 tg4 tg5 = ((fpn_1, fn_1, kn_1), tkn_1, tg2n_1, tg3n_1, tg4n_1, tg5n_1)) (hF_1_3 : (xRw fb z tg1).2 = (twn_1, tg1n_1)) (hF_1_4 : tv0n_1 = xL0 fb z (0, 0, 0)) (hF_1_5 : tv1n_1 = xL1 fb z (0, 0, 0)) (hF_1_6 : tv2n_1 = xL2 fb z (0, 0, 0)) (h_1 : r_1 = ((xRs fb z tg1 tg2 tg3 tg4 tg5).1.2.1)) (c_2 : r_1 = 0) (hF_3_0 : (∀ jq : Nat, jq < 6 → f1n_3 jq = tg1n_1 jq)) (hF_3_1 : (∀ jq : Nat, jq < 6 → f2n_3 jq = tg2n_1 jq)) (hF_3_2 : (∀ jq : Nat, jq < 6 → f3n_3 jq = tg3n_1 jq)) (hF_3_3 : (∀ jq : Nat, jq < 6 → f4n_3 jq = tg4n_1 jq)) (hF_3_4 : (∀ jq : Nat, jq < 6 → f5n_3 jq = tg5n_1 jq)) : tkn_1 ≤ 6 := by
  first
  | omega
  | with_reducible rfl
  | with_reducible exact okT_0 _
  | with_reducible exact lx_f hz hokT h_1 c_2
  | with_reducible exact lx_n hz hokT h_1 c_2
  | with_reducible exact lx_L hz hokT h_1 c_2 hF_1_2 hF_1_3 hF_1_4 hF_1_5 hF_1_6 hF_1_0 hF_1_1 hF_3_0 hF_3_1 hF_3_2 hF_3_3 hF_3_4
  | with_reducible exact lx_A hz hokT h_1 c_2 hF_1_2
  | with_reducible exact lx_fn hz hokT h_1 c_2
  | with_reducible exact lx_l hz hokT h_1 c_2
  | with_reducible exact lx_nn hz hokT h_1 c_2
  | omega
theorem lf_X7_level_7 {z : Nat} {fb : Nat → Int32} {thh : Nat} {tww : Nat} {tkk : Nat} {tg1 : Nat → Int32} {tg2 : Nat → Int32} {tg3 : Nat → Int32} {tg4 : Nat → Int32} {tg5 : Nat → Int32} {nhh : Nat} {nww : Nat} {nkk : Nat} {az : Nat} {fpn_1 : Int32} {fn_1 : Int32} {kn_1 : Int32} {tv0n_1 : Int32} {tv1n_1 : Int32} {tv2n_1 : Int32} {twn_1 : Nat} {tkn_1 : Nat} {tg1n_1 : Nat → Int32} {tg2n_1 : Nat → Int32} {tg3n_1 : Nat → Int32} {tg4n_1 : Nat → Int32} {tg5n_1 : Nat → Int32} {r_1 : Int32} {f1n_3 : Nat → Int32} {f2n_3 : Nat → Int32} {f3n_3 : Nat → Int32} {f4n_3 : Nat → Int32} {f5n_3 : Nat → Int32} (hz : z ≤ 120) (thb : thh ≤ 999) (htww : tww ≤ 6) (htkk : tkk ≤ 6) (nhb : nhh ≤ 999) (nwb : nww ≤ 6) (nkb : nkk ≤ 6) (haz : az ≤ 24) (hokT : okT fb z) (hF_1_0 : twn_1 ≤ 6) (hF_1_1 : tkn_1 ≤ 6) (hF_1_2 : xRs fb z tg1 tg2 tg3 tg4 tg5 = ((fpn_1, fn_1, kn_1), tkn_1, tg2n_1, tg3n_1, tg4n_1, tg5n_1)) (hF_1_3 : (xRw fb z tg1).2 = (twn_1, tg1n_1)) (hF_1_4 : tv0n_1 = xL0 fb z (0, 0, 0)) (hF_1_5 : tv1n_1 = xL1 fb z (0, 0, 0)) (hF_1_6 : tv2n_1 = xL2 fb z (0, 0, 0)) (h_1 : r_1 = ((xRs fb z tg1 tg2 tg3 tg4 tg5).1.2.1)) (c_2 : r_1 = 0) (hF_3_0 : (∀ jq : Nat, jq < 6 → f1n_3 jq = tg1n_1 jq)) (hF_3_1 : (∀ jq : Nat, jq < 6 → f2n_3 jq = tg2n_1 jq)) (hF_3_2 : (∀ jq : Nat, jq < 6 → f3n_3 jq = tg3n_1 jq)) (hF_3_3 : (∀ jq : Nat, jq < 6 → f4n_3 jq = tg4n_1 jq)) (hF_3_4 : (∀ jq : Nat, jq < 6 → f5n_3 jq = tg5n_1 jq)) : 0 ≤ 24 := by
  first
  | omega
  | with_reducible rfl
  | with_reducible exact okT_0 _
  | with_reducible exact lx_f hz hokT h_1 c_2
  | with_reducible exact lx_n hz hokT h_1 c_2
  | with_reducible exact lx_L hz hokT h_1 c_2 hF_1_2 hF_1_3 hF_1_4 hF_1_5 hF_1_6 hF_1_0 hF_1_1 hF_3_0 hF_3_1 hF_3_2 hF_3_3 hF_3_4
  | with_reducible exact lx_A hz hokT h_1 c_2 hF_1_2
  | with_reducible exact lx_fn hz hokT h_1 c_2
  | with_reducible exact lx_l hz hokT h_1 c_2
  | with_reducible exact lx_nn hz hokT h_1 c_2
  | omega
theorem lf_X7_level_8 {z : Nat} {fb : Nat → Int32} {thh : Nat} {tww : Nat} {tkk : Nat} {tg1 : Nat → Int32} {tg2 : Nat → Int32} {tg3 : Nat → Int32} {tg4 : Nat → Int32} {tg5 : Nat → Int32} {nhh : Nat} {nww : Nat} {nkk : Nat} {az : Nat} {fpn_1 : Int32} {fn_1 : Int32} {kn_1 : Int32} {tv0n_1 : Int32} {tv1n_1 : Int32} {tv2n_1 : Int32} {twn_1 : Nat} {tkn_1 : Nat} {tg1n_1 : Nat → Int32} {tg2n_1 : Nat → Int32} {tg3n_1 : Nat → Int32} {tg4n_1 : Nat → Int32} {tg5n_1 : Nat → Int32} {r_1 : Int32} {f1n_3 : Nat → Int32} {f2n_3 : Nat → Int32} {f3n_3 : Nat → Int32} {f4n_3 : Nat → Int32} {f5n_3 : Nat → Int32} (hz : z ≤ 120) (thb : thh ≤ 999) (htww : tww ≤ 6) (htkk : tkk ≤ 6) (nhb : nhh ≤ 999) (nwb : nww ≤ 6) (nkb : nkk ≤ 6) (haz : az ≤ 24) (hokT : okT fb z) (hF_1_0 : twn_1 ≤ 6) (hF_1_1 : tkn_1 ≤ 6) (hF_1_2 : xRs fb z tg1 tg2 tg3 tg4 tg5 = ((fpn_1, fn_1, kn_1), tkn_1, tg2n_1, tg3n_1, tg4n_1, tg5n_1)) (hF_1_3 : (xRw fb z tg1).2 = (twn_1, tg1n_1)) (hF_1_4 : tv0n_1 = xL0 fb z (0, 0, 0)) (hF_1_5 : tv1n_1 = xL1 fb z (0, 0, 0)) (hF_1_6 : tv2n_1 = xL2 fb z (0, 0, 0)) (h_1 : r_1 = ((xRs fb z tg1 tg2 tg3 tg4 tg5).1.2.1)) (c_2 : r_1 = 0) (hF_3_0 : (∀ jq : Nat, jq < 6 → f1n_3 jq = tg1n_1 jq)) (hF_3_1 : (∀ jq : Nat, jq < 6 → f2n_3 jq = tg2n_1 jq)) (hF_3_2 : (∀ jq : Nat, jq < 6 → f3n_3 jq = tg3n_1 jq)) (hF_3_3 : (∀ jq : Nat, jq < 6 → f4n_3 jq = tg4n_1 jq)) (hF_3_4 : (∀ jq : Nat, jq < 6 → f5n_3 jq = tg5n_1 jq)) : fb = fb := by
  first
  | omega
  | with_reducible rfl
  | with_reducible exact okT_0 _
  | with_reducible exact lx_f hz hokT h_1 c_2
  | with_reducible exact lx_n hz hokT h_1 c_2
  | with_reducible exact lx_L hz hokT h_1 c_2 hF_1_2 hF_1_3 hF_1_4 hF_1_5 hF_1_6 hF_1_0 hF_1_1 hF_3_0 hF_3_1 hF_3_2 hF_3_3 hF_3_4
  | with_reducible exact lx_A hz hokT h_1 c_2 hF_1_2
  | with_reducible exact lx_fn hz hokT h_1 c_2
  | with_reducible exact lx_l hz hokT h_1 c_2
  | with_reducible exact lx_nn hz hokT h_1 c_2
  | omega
theorem lf_X7_level_9 {xf : Int32} {z : Nat} {fb : Nat → Int32} {thh : Nat} {tww : Nat} {tkk : Nat} {tg1 : Nat → Int32} {tg2 : Nat → Int32} {tg3 : Nat → Int32} {tg4 : Nat → Int32} {tg5 : Nat → Int32} {nhh : Nat} {nww : Nat} {nkk : Nat} {az : Nat} {fpn_1 : Int32} {fn_1 : Int32} {kn_1 : Int32} {tv0n_1 : Int32} {tv1n_1 : Int32} {tv2n_1 : Int32} {twn_1 : Nat} {tkn_1 : Nat} {tg1n_1 : Nat → Int32} {tg2n_1 : Nat → Int32} {tg3n_1 : Nat → Int32} {tg4n_1 : Nat → Int32} {tg5n_1 : Nat → Int32} {r_1 : Int32} {f1n_3 : Nat → Int32} {f2n_3 : Nat → Int32} {f3n_3 : Nat → Int32} {f4n_3 : Nat → Int32} {f5n_3 : Nat → Int32} (hz : z ≤ 120) (thb : thh ≤ 999) (htww : tww ≤ 6) (htkk : tkk ≤ 6) (nhb : nhh ≤ 999) (nwb : nww ≤ 6) (nkb : nkk ≤ 6) (haz : az ≤ 24) (hokT : okT fb z) (hF_1_0 : twn_1 ≤ 6) (hF_1_1 : tkn_1 ≤ 6) (hF_1_2 : xRs fb z tg1 tg2 tg3 tg4 tg5 = ((fpn_1, fn_1, kn_1), tkn_1, tg2n_1, tg3n_1, tg4n_1, tg5n_1)) (hF_1_3 : (xRw fb z tg1).2 = (twn_1, tg1n_1)) (hF_1_4 : tv0n_1 = xL0 fb z (0, 0, 0)) (hF_1_5 : tv1n_1 = xL1 fb z (0, 0, 0)) (hF_1_6 : tv2n_1 = xL2 fb z (0, 0, 0)) (h_1 : r_1 = ((xRs fb z tg1 tg2 tg3 tg4 tg5).1.2.1)) (c_2 : r_1 = 0) (hF_3_0 : (∀ jq : Nat, jq < 6 → f1n_3 jq = tg1n_1 jq)) (hF_3_1 : (∀ jq : Nat, jq < 6 → f2n_3 jq = tg2n_1 jq)) (hF_3_2 : (∀ jq : Nat, jq < 6 → f3n_3 jq = tg3n_1 jq)) (hF_3_3 : (∀ jq : Nat, jq < 6 → f4n_3 jq = tg4n_1 jq)) (hF_3_4 : (∀ jq : Nat, jq < 6 → f5n_3 jq = tg5n_1 jq)) : xf = lvF fb z xf := by
  first
  | omega
  | with_reducible rfl
  | with_reducible exact okT_0 _
  | with_reducible exact lx_f hz hokT h_1 c_2
  | with_reducible exact lx_n hz hokT h_1 c_2
  | with_reducible exact lx_L hz hokT h_1 c_2 hF_1_2 hF_1_3 hF_1_4 hF_1_5 hF_1_6 hF_1_0 hF_1_1 hF_3_0 hF_3_1 hF_3_2 hF_3_3 hF_3_4
  | with_reducible exact lx_A hz hokT h_1 c_2 hF_1_2
  | with_reducible exact lx_fn hz hokT h_1 c_2
  | with_reducible exact lx_l hz hokT h_1 c_2
  | with_reducible exact lx_nn hz hokT h_1 c_2
  | omega
theorem lf_X7_level_10 {z : Nat} {fb : Nat → Int32} {thh : Nat} {tww : Nat} {tkk : Nat} {tg1 : Nat → Int32} {tg2 : Nat → Int32} {tg3 : Nat → Int32} {tg4 : Nat → Int32} {tg5 : Nat → Int32} {nhh : Nat} {nww : Nat} {nkk : Nat} {az : Nat} {fpn_1 : Int32} {fn_1 : Int32} {kn_1 : Int32} {tv0n_1 : Int32} {tv1n_1 : Int32} {tv2n_1 : Int32} {twn_1 : Nat} {tkn_1 : Nat} {tg1n_1 : Nat → Int32} {tg2n_1 : Nat → Int32} {tg3n_1 : Nat → Int32} {tg4n_1 : Nat → Int32} {tg5n_1 : Nat → Int32} {r_1 : Int32} {f1n_3 : Nat → Int32} {f2n_3 : Nat → Int32} {f3n_3 : Nat → Int32} {f4n_3 : Nat → Int32} {f5n_3 : Nat → Int32} (hz : z ≤ 120) (thb : thh ≤ 999) (htww : tww ≤ 6) (htkk : tkk ≤ 6) (nhb : nhh ≤ 999) (nwb : nww ≤ 6) (nkb : nkk ≤ 6) (haz : az ≤ 24) (hokT : okT fb z) (hF_1_0 : twn_1 ≤ 6) (hF_1_1 : tkn_1 ≤ 6) (hF_1_2 : xRs fb z tg1 tg2 tg3 tg4 tg5 = ((fpn_1, fn_1, kn_1), tkn_1, tg2n_1, tg3n_1, tg4n_1, tg5n_1)) (hF_1_3 : (xRw fb z tg1).2 = (twn_1, tg1n_1)) (hF_1_4 : tv0n_1 = xL0 fb z (0, 0, 0)) (hF_1_5 : tv1n_1 = xL1 fb z (0, 0, 0)) (hF_1_6 : tv2n_1 = xL2 fb z (0, 0, 0)) (h_1 : r_1 = ((xRs fb z tg1 tg2 tg3 tg4 tg5).1.2.1)) (c_2 : r_1 = 0) (hF_3_0 : (∀ jq : Nat, jq < 6 → f1n_3 jq = tg1n_1 jq)) (hF_3_1 : (∀ jq : Nat, jq < 6 → f2n_3 jq = tg2n_1 jq)) (hF_3_2 : (∀ jq : Nat, jq < 6 → f3n_3 jq = tg3n_1 jq)) (hF_3_3 : (∀ jq : Nat, jq < 6 → f4n_3 jq = tg4n_1 jq)) (hF_3_4 : (∀ jq : Nat, jq < 6 → f5n_3 jq = tg5n_1 jq)) : okT fb 0 := by
  first
  | omega
  | with_reducible rfl
  | with_reducible exact okT_0 _
  | with_reducible exact lx_f hz hokT h_1 c_2
  | with_reducible exact lx_n hz hokT h_1 c_2
  | with_reducible exact lx_L hz hokT h_1 c_2 hF_1_2 hF_1_3 hF_1_4 hF_1_5 hF_1_6 hF_1_0 hF_1_1 hF_3_0 hF_3_1 hF_3_2 hF_3_3 hF_3_4
  | with_reducible exact lx_A hz hokT h_1 c_2 hF_1_2
  | with_reducible exact lx_fn hz hokT h_1 c_2
  | with_reducible exact lx_l hz hokT h_1 c_2
  | with_reducible exact lx_nn hz hokT h_1 c_2
  | omega
theorem lf_X7_level_11 {z : Nat} {fb : Nat → Int32} {thh : Nat} {tww : Nat} {tkk : Nat} {tg1 : Nat → Int32} {tg2 : Nat → Int32} {tg3 : Nat → Int32} {tg4 : Nat → Int32} {tg5 : Nat → Int32} {nv0 : Int32} {nv1 : Int32} {nv2 : Int32} {nv3 : Int32} {nv5 : Int32} {nhh : Nat} {nww : Nat} {nkk : Nat} {ng1 : Nat → Int32} {ng2 : Nat → Int32} {ng3 : Nat → Int32} {ng4 : Nat → Int32} {ng5 : Nat → Int32} {az : Nat} {fpn_1 : Int32} {fn_1 : Int32} {kn_1 : Int32} {tv0n_1 : Int32} {tv1n_1 : Int32} {tv2n_1 : Int32} {twn_1 : Nat} {tkn_1 : Nat} {tg1n_1 : Nat → Int32} {tg2n_1 : Nat → Int32} {tg3n_1 : Nat → Int32} {tg4n_1 : Nat → Int32} {tg5n_1 : Nat → Int32} {r_1 : Int32} {f1n_3 : Nat → Int32} {f2n_3 : Nat → Int32} {f3n_3 : Nat → Int32} {f4n_3 : Nat → Int32} {f5n_3 : Nat → Int32} (hz : z ≤ 120) (thb : thh ≤ 999) (htww : tww ≤ 6) (htkk : tkk ≤ 6) (nhb : nhh ≤ 999) (nwb : nww ≤ 6) (nkb : nkk ≤ 6) (haz : az ≤ 24) (hokT : okT fb z) (hF_1_0 : twn_1 ≤ 6) (hF_1_1 : tkn_1 ≤ 6) (hF_1_2 : xRs fb z tg1 tg2 tg3 tg4 tg5 = ((fpn_1, fn_1, kn_1), tkn_1, tg2n_1, tg3n_1, tg4n_1, tg5n_1)) (hF_1_3 : (xRw fb z tg1).2 = (twn_1, tg1n_1)) (hF_1_4 : tv0n_1 = xL0 fb z (0, 0, 0)) (hF_1_5 : tv1n_1 = xL1 fb z (0, 0, 0)) (hF_1_6 : tv2n_1 = xL2 fb z (0, 0, 0)) (h_1 : r_1 = ((xRs fb z tg1 tg2 tg3 tg4 tg5).1.2.1)) (c_2 : r_1 = 0) (hF_3_0 : (∀ jq : Nat, jq < 6 → f1n_3 jq = tg1n_1 jq)) (hF_3_1 : (∀ jq : Nat, jq < 6 → f2n_3 jq = tg2n_1 jq)) (hF_3_2 : (∀ jq : Nat, jq < 6 → f3n_3 jq = tg3n_1 jq)) (hF_3_3 : (∀ jq : Nat, jq < 6 → f4n_3 jq = tg4n_1 jq)) (hF_3_4 : (∀ jq : Nat, jq < 6 → f5n_3 jq = tg5n_1 jq)) : (nrm tv0n_1 tv1n_1 tv2n_1 1 0 0 twn_1 tkn_1 f1n_3 f2n_3 f3n_3 f4n_3 f5n_3) = n_lev ((rR fb z).2 = 0) (rR fb z).1.2 (nrm nv0 nv1 nv2 nv3 nhh nv5 nww nkk ng1 ng2 ng3 ng4 ng5) := by
  first
  | omega
  | with_reducible rfl
  | with_reducible exact okT_0 _
  | with_reducible exact lx_f hz hokT h_1 c_2
  | with_reducible exact lx_n hz hokT h_1 c_2
  | with_reducible exact lx_L hz hokT h_1 c_2 hF_1_2 hF_1_3 hF_1_4 hF_1_5 hF_1_6 hF_1_0 hF_1_1 hF_3_0 hF_3_1 hF_3_2 hF_3_3 hF_3_4
  | with_reducible exact lx_A hz hokT h_1 c_2 hF_1_2
  | with_reducible exact lx_fn hz hokT h_1 c_2
  | with_reducible exact lx_l hz hokT h_1 c_2
  | with_reducible exact lx_nn hz hokT h_1 c_2
  | omega
theorem lf_X7_level_12 {z : Nat} {fb : Nat → Int32} {thh : Nat} {tww : Nat} {tkk : Nat} {tg1 : Nat → Int32} {tg2 : Nat → Int32} {tg3 : Nat → Int32} {tg4 : Nat → Int32} {tg5 : Nat → Int32} {nhh : Nat} {nww : Nat} {nkk : Nat} {az : Nat} {fpn_1 : Int32} {fn_1 : Int32} {kn_1 : Int32} {tv0n_1 : Int32} {tv1n_1 : Int32} {tv2n_1 : Int32} {twn_1 : Nat} {tkn_1 : Nat} {tg1n_1 : Nat → Int32} {tg2n_1 : Nat → Int32} {tg3n_1 : Nat → Int32} {tg4n_1 : Nat → Int32} {tg5n_1 : Nat → Int32} {r_1 : Int32} {f1n_3 : Nat → Int32} {f2n_3 : Nat → Int32} {f3n_3 : Nat → Int32} {f4n_3 : Nat → Int32} {f5n_3 : Nat → Int32} (hz : z ≤ 120) (thb : thh ≤ 999) (htww : tww ≤ 6) (htkk : tkk ≤ 6) (nhb : nhh ≤ 999) (nwb : nww ≤ 6) (nkb : nkk ≤ 6) (haz : az ≤ 24) (hokT : okT fb z) (hF_1_0 : twn_1 ≤ 6) (hF_1_1 : tkn_1 ≤ 6) (hF_1_2 : xRs fb z tg1 tg2 tg3 tg4 tg5 = ((fpn_1, fn_1, kn_1), tkn_1, tg2n_1, tg3n_1, tg4n_1, tg5n_1)) (hF_1_3 : (xRw fb z tg1).2 = (twn_1, tg1n_1)) (hF_1_4 : tv0n_1 = xL0 fb z (0, 0, 0)) (hF_1_5 : tv1n_1 = xL1 fb z (0, 0, 0)) (hF_1_6 : tv2n_1 = xL2 fb z (0, 0, 0)) (h_1 : r_1 = ((xRs fb z tg1 tg2 tg3 tg4 tg5).1.2.1)) (c_2 : r_1 = 0) (hF_3_0 : (∀ jq : Nat, jq < 6 → f1n_3 jq = tg1n_1 jq)) (hF_3_1 : (∀ jq : Nat, jq < 6 → f2n_3 jq = tg2n_1 jq)) (hF_3_2 : (∀ jq : Nat, jq < 6 → f3n_3 jq = tg3n_1 jq)) (hF_3_3 : (∀ jq : Nat, jq < 6 → f4n_3 jq = tg4n_1 jq)) (hF_3_4 : (∀ jq : Nat, jq < 6 → f5n_3 jq = tg5n_1 jq)) : 0 = n_levN ((rR fb z).2 = 0) az := by
  first
  | omega
  | with_reducible rfl
  | with_reducible exact okT_0 _
  | with_reducible exact lx_f hz hokT h_1 c_2
  | with_reducible exact lx_n hz hokT h_1 c_2
  | with_reducible exact lx_L hz hokT h_1 c_2 hF_1_2 hF_1_3 hF_1_4 hF_1_5 hF_1_6 hF_1_0 hF_1_1 hF_3_0 hF_3_1 hF_3_2 hF_3_3 hF_3_4
  | with_reducible exact lx_A hz hokT h_1 c_2 hF_1_2
  | with_reducible exact lx_fn hz hokT h_1 c_2
  | with_reducible exact lx_l hz hokT h_1 c_2
  | with_reducible exact lx_nn hz hokT h_1 c_2
  | omega
theorem lf_X7_level_13 {z : Nat} {fb : Nat → Int32} {thh : Nat} {tww : Nat} {tkk : Nat} {tg1 : Nat → Int32} {tg2 : Nat → Int32} {tg3 : Nat → Int32} {tg4 : Nat → Int32} {tg5 : Nat → Int32} {nhh : Nat} {nww : Nat} {nkk : Nat} {az : Nat} {fpn_1 : Int32} {fn_1 : Int32} {kn_1 : Int32} {tv0n_1 : Int32} {tv1n_1 : Int32} {tv2n_1 : Int32} {twn_1 : Nat} {tkn_1 : Nat} {tg1n_1 : Nat → Int32} {tg2n_1 : Nat → Int32} {tg3n_1 : Nat → Int32} {tg4n_1 : Nat → Int32} {tg5n_1 : Nat → Int32} {r_1 : Int32} {f1n_3 : Nat → Int32} {f2n_3 : Nat → Int32} {f3n_3 : Nat → Int32} {f4n_3 : Nat → Int32} {f5n_3 : Nat → Int32} (hz : z ≤ 120) (thb : thh ≤ 999) (htww : tww ≤ 6) (htkk : tkk ≤ 6) (nhb : nhh ≤ 999) (nwb : nww ≤ 6) (nkb : nkk ≤ 6) (haz : az ≤ 24) (hokT : okT fb z) (hF_1_0 : twn_1 ≤ 6) (hF_1_1 : tkn_1 ≤ 6) (hF_1_2 : xRs fb z tg1 tg2 tg3 tg4 tg5 = ((fpn_1, fn_1, kn_1), tkn_1, tg2n_1, tg3n_1, tg4n_1, tg5n_1)) (hF_1_3 : (xRw fb z tg1).2 = (twn_1, tg1n_1)) (hF_1_4 : tv0n_1 = xL0 fb z (0, 0, 0)) (hF_1_5 : tv1n_1 = xL1 fb z (0, 0, 0)) (hF_1_6 : tv2n_1 = xL2 fb z (0, 0, 0)) (h_1 : r_1 = ((xRs fb z tg1 tg2 tg3 tg4 tg5).1.2.1)) (c_2 : r_1 = 0) (hF_3_0 : (∀ jq : Nat, jq < 6 → f1n_3 jq = tg1n_1 jq)) (hF_3_1 : (∀ jq : Nat, jq < 6 → f2n_3 jq = tg2n_1 jq)) (hF_3_2 : (∀ jq : Nat, jq < 6 → f3n_3 jq = tg3n_1 jq)) (hF_3_3 : (∀ jq : Nat, jq < 6 → f4n_3 jq = tg4n_1 jq)) (hF_3_4 : (∀ jq : Nat, jq < 6 → f5n_3 jq = tg5n_1 jq)) : (nI tkn_1) = (lvA fb z) := by
  first
  | omega
  | with_reducible rfl
  | with_reducible exact okT_0 _
  | with_reducible exact lx_f hz hokT h_1 c_2
  | with_reducible exact lx_n hz hokT h_1 c_2
  | with_reducible exact lx_L hz hokT h_1 c_2 hF_1_2 hF_1_3 hF_1_4 hF_1_5 hF_1_6 hF_1_0 hF_1_1 hF_3_0 hF_3_1 hF_3_2 hF_3_3 hF_3_4
  | with_reducible exact lx_A hz hokT h_1 c_2 hF_1_2
  | with_reducible exact lx_fn hz hokT h_1 c_2
  | with_reducible exact lx_l hz hokT h_1 c_2
  | with_reducible exact lx_nn hz hokT h_1 c_2
  | omega
theorem lf_X7_level_14 {z : Nat} {fb : Nat → Int32} {thh : Nat} {tww : Nat} {tkk : Nat} {tg1 : Nat → Int32} {tg2 : Nat → Int32} {tg3 : Nat → Int32} {tg4 : Nat → Int32} {tg5 : Nat → Int32} {nhh : Nat} {nww : Nat} {nkk : Nat} {az : Nat} {fpn_1 : Int32} {fn_1 : Int32} {kn_1 : Int32} {tv0n_1 : Int32} {tv1n_1 : Int32} {tv2n_1 : Int32} {twn_1 : Nat} {tkn_1 : Nat} {tg1n_1 : Nat → Int32} {tg2n_1 : Nat → Int32} {tg3n_1 : Nat → Int32} {tg4n_1 : Nat → Int32} {tg5n_1 : Nat → Int32} {r_1 : Int32} {v_5 : Int32} (hz : z ≤ 120) (thb : thh ≤ 999) (htww : tww ≤ 6) (htkk : tkk ≤ 6) (nhb : nhh ≤ 999) (nwb : nww ≤ 6) (nkb : nkk ≤ 6) (haz : az ≤ 24) (hokT : okT fb z) (hF_1_0 : twn_1 ≤ 6) (hF_1_1 : tkn_1 ≤ 6) (hF_1_2 : xRs fb z tg1 tg2 tg3 tg4 tg5 = ((fpn_1, fn_1, kn_1), tkn_1, tg2n_1, tg3n_1, tg4n_1, tg5n_1)) (hF_1_3 : (xRw fb z tg1).2 = (twn_1, tg1n_1)) (hF_1_4 : tv0n_1 = xL0 fb z (0, 0, 0)) (hF_1_5 : tv1n_1 = xL1 fb z (0, 0, 0)) (hF_1_6 : tv2n_1 = xL2 fb z (0, 0, 0)) (h_1 : r_1 = ((xRs fb z tg1 tg2 tg3 tg4 tg5).1.2.1)) (c_2 : ¬ (r_1 = 0)) (e_5 : v_5 = ((-1000100) - fpn_1)) : 0 ≤ 999 := by
  first
  | omega
  | with_reducible rfl
  | with_reducible exact okT_0 _
  | with_reducible exact lx_f hz hokT h_1 c_2
  | with_reducible exact lx_n hz hokT h_1 c_2
  | with_reducible exact lx_A hz hokT h_1 c_2 hF_1_2
  | with_reducible exact lx_fn hz hokT h_1 c_2
  | with_reducible exact lx_l hz hokT h_1 c_2
  | with_reducible exact lx_nn hz hokT h_1 c_2
  | with_reducible exact lx_AN hz hokT h_1 c_2 hF_1_2 e_5
  | omega
theorem lf_X7_level_15 {z : Nat} {fb : Nat → Int32} {thh : Nat} {tww : Nat} {tkk : Nat} {tg1 : Nat → Int32} {tg2 : Nat → Int32} {tg3 : Nat → Int32} {tg4 : Nat → Int32} {tg5 : Nat → Int32} {nhh : Nat} {nww : Nat} {nkk : Nat} {az : Nat} {fpn_1 : Int32} {fn_1 : Int32} {kn_1 : Int32} {tv0n_1 : Int32} {tv1n_1 : Int32} {tv2n_1 : Int32} {twn_1 : Nat} {tkn_1 : Nat} {tg1n_1 : Nat → Int32} {tg2n_1 : Nat → Int32} {tg3n_1 : Nat → Int32} {tg4n_1 : Nat → Int32} {tg5n_1 : Nat → Int32} {r_1 : Int32} {v_5 : Int32} (hz : z ≤ 120) (thb : thh ≤ 999) (htww : tww ≤ 6) (htkk : tkk ≤ 6) (nhb : nhh ≤ 999) (nwb : nww ≤ 6) (nkb : nkk ≤ 6) (haz : az ≤ 24) (hokT : okT fb z) (hF_1_0 : twn_1 ≤ 6) (hF_1_1 : tkn_1 ≤ 6) (hF_1_2 : xRs fb z tg1 tg2 tg3 tg4 tg5 = ((fpn_1, fn_1, kn_1), tkn_1, tg2n_1, tg3n_1, tg4n_1, tg5n_1)) (hF_1_3 : (xRw fb z tg1).2 = (twn_1, tg1n_1)) (hF_1_4 : tv0n_1 = xL0 fb z (0, 0, 0)) (hF_1_5 : tv1n_1 = xL1 fb z (0, 0, 0)) (hF_1_6 : tv2n_1 = xL2 fb z (0, 0, 0)) (h_1 : r_1 = ((xRs fb z tg1 tg2 tg3 tg4 tg5).1.2.1)) (c_2 : ¬ (r_1 = 0)) (e_5 : v_5 = ((-1000100) - fpn_1)) : twn_1 ≤ 6 := by
  first
  | omega
  | with_reducible rfl
  | with_reducible exact okT_0 _
  | with_reducible exact lx_f hz hokT h_1 c_2
  | with_reducible exact lx_n hz hokT h_1 c_2
  | with_reducible exact lx_A hz hokT h_1 c_2 hF_1_2
  | with_reducible exact lx_fn hz hokT h_1 c_2
  | with_reducible exact lx_l hz hokT h_1 c_2
  | with_reducible exact lx_nn hz hokT h_1 c_2
  | with_reducible exact lx_AN hz hokT h_1 c_2 hF_1_2 e_5
  | omega
theorem lf_X7_level_16 {z : Nat} {fb : Nat → Int32} {thh : Nat} {tww : Nat} {tkk : Nat} {tg1 : Nat → Int32} {tg2 : Nat → Int32} {tg3 : Nat → Int32} {tg4 : Nat → Int32} {tg5 : Nat → Int32} {nhh : Nat} {nww : Nat} {nkk : Nat} {az : Nat} {fpn_1 : Int32} {fn_1 : Int32} {kn_1 : Int32} {tv0n_1 : Int32} {tv1n_1 : Int32} {tv2n_1 : Int32} {twn_1 : Nat} {tkn_1 : Nat} {tg1n_1 : Nat → Int32} {tg2n_1 : Nat → Int32} {tg3n_1 : Nat → Int32} {tg4n_1 : Nat → Int32} {tg5n_1 : Nat → Int32} {r_1 : Int32} {v_5 : Int32} (hz : z ≤ 120) (thb : thh ≤ 999) (htww : tww ≤ 6) (htkk : tkk ≤ 6) (nhb : nhh ≤ 999) (nwb : nww ≤ 6) (nkb : nkk ≤ 6) (haz : az ≤ 24) (hokT : okT fb z) (hF_1_0 : twn_1 ≤ 6) (hF_1_1 : tkn_1 ≤ 6) (hF_1_2 : xRs fb z tg1 tg2 tg3 tg4 tg5 = ((fpn_1, fn_1, kn_1), tkn_1, tg2n_1, tg3n_1, tg4n_1, tg5n_1)) (hF_1_3 : (xRw fb z tg1).2 = (twn_1, tg1n_1)) (hF_1_4 : tv0n_1 = xL0 fb z (0, 0, 0)) (hF_1_5 : tv1n_1 = xL1 fb z (0, 0, 0)) (hF_1_6 : tv2n_1 = xL2 fb z (0, 0, 0)) (h_1 : r_1 = ((xRs fb z tg1 tg2 tg3 tg4 tg5).1.2.1)) (c_2 : ¬ (r_1 = 0)) (e_5 : v_5 = ((-1000100) - fpn_1)) : tkn_1 ≤ 6 := by
  first
  | omega
  | with_reducible rfl
  | with_reducible exact okT_0 _
  | with_reducible exact lx_f hz hokT h_1 c_2
  | with_reducible exact lx_n hz hokT h_1 c_2
  | with_reducible exact lx_A hz hokT h_1 c_2 hF_1_2
  | with_reducible exact lx_fn hz hokT h_1 c_2
  | with_reducible exact lx_l hz hokT h_1 c_2
  | with_reducible exact lx_nn hz hokT h_1 c_2
  | with_reducible exact lx_AN hz hokT h_1 c_2 hF_1_2 e_5
  | omega
theorem lf_X7_level_17 {z : Nat} {fb : Nat → Int32} {thh : Nat} {tww : Nat} {tkk : Nat} {tg1 : Nat → Int32} {tg2 : Nat → Int32} {tg3 : Nat → Int32} {tg4 : Nat → Int32} {tg5 : Nat → Int32} {nhh : Nat} {nww : Nat} {nkk : Nat} {az : Nat} {fpn_1 : Int32} {fn_1 : Int32} {kn_1 : Int32} {tv0n_1 : Int32} {tv1n_1 : Int32} {tv2n_1 : Int32} {twn_1 : Nat} {tkn_1 : Nat} {tg1n_1 : Nat → Int32} {tg2n_1 : Nat → Int32} {tg3n_1 : Nat → Int32} {tg4n_1 : Nat → Int32} {tg5n_1 : Nat → Int32} {r_1 : Int32} {v_5 : Int32} (hz : z ≤ 120) (thb : thh ≤ 999) (htww : tww ≤ 6) (htkk : tkk ≤ 6) (nhb : nhh ≤ 999) (nwb : nww ≤ 6) (nkb : nkk ≤ 6) (haz : az ≤ 24) (hokT : okT fb z) (hF_1_0 : twn_1 ≤ 6) (hF_1_1 : tkn_1 ≤ 6) (hF_1_2 : xRs fb z tg1 tg2 tg3 tg4 tg5 = ((fpn_1, fn_1, kn_1), tkn_1, tg2n_1, tg3n_1, tg4n_1, tg5n_1)) (hF_1_3 : (xRw fb z tg1).2 = (twn_1, tg1n_1)) (hF_1_4 : tv0n_1 = xL0 fb z (0, 0, 0)) (hF_1_5 : tv1n_1 = xL1 fb z (0, 0, 0)) (hF_1_6 : tv2n_1 = xL2 fb z (0, 0, 0)) (h_1 : r_1 = ((xRs fb z tg1 tg2 tg3 tg4 tg5).1.2.1)) (c_2 : ¬ (r_1 = 0)) (e_5 : v_5 = ((-1000100) - fpn_1)) : nhh ≤ 999 := by
  first
  | omega
  | with_reducible rfl
  | with_reducible exact okT_0 _
  | with_reducible exact lx_f hz hokT h_1 c_2
  | with_reducible exact lx_n hz hokT h_1 c_2
  | with_reducible exact lx_A hz hokT h_1 c_2 hF_1_2
  | with_reducible exact lx_fn hz hokT h_1 c_2
  | with_reducible exact lx_l hz hokT h_1 c_2
  | with_reducible exact lx_nn hz hokT h_1 c_2
  | with_reducible exact lx_AN hz hokT h_1 c_2 hF_1_2 e_5
  | omega
theorem lf_X7_level_18 {z : Nat} {fb : Nat → Int32} {thh : Nat} {tww : Nat} {tkk : Nat} {tg1 : Nat → Int32} {tg2 : Nat → Int32} {tg3 : Nat → Int32} {tg4 : Nat → Int32} {tg5 : Nat → Int32} {nhh : Nat} {nww : Nat} {nkk : Nat} {az : Nat} {fpn_1 : Int32} {fn_1 : Int32} {kn_1 : Int32} {tv0n_1 : Int32} {tv1n_1 : Int32} {tv2n_1 : Int32} {twn_1 : Nat} {tkn_1 : Nat} {tg1n_1 : Nat → Int32} {tg2n_1 : Nat → Int32} {tg3n_1 : Nat → Int32} {tg4n_1 : Nat → Int32} {tg5n_1 : Nat → Int32} {r_1 : Int32} {v_5 : Int32} (hz : z ≤ 120) (thb : thh ≤ 999) (htww : tww ≤ 6) (htkk : tkk ≤ 6) (nhb : nhh ≤ 999) (nwb : nww ≤ 6) (nkb : nkk ≤ 6) (haz : az ≤ 24) (hokT : okT fb z) (hF_1_0 : twn_1 ≤ 6) (hF_1_1 : tkn_1 ≤ 6) (hF_1_2 : xRs fb z tg1 tg2 tg3 tg4 tg5 = ((fpn_1, fn_1, kn_1), tkn_1, tg2n_1, tg3n_1, tg4n_1, tg5n_1)) (hF_1_3 : (xRw fb z tg1).2 = (twn_1, tg1n_1)) (hF_1_4 : tv0n_1 = xL0 fb z (0, 0, 0)) (hF_1_5 : tv1n_1 = xL1 fb z (0, 0, 0)) (hF_1_6 : tv2n_1 = xL2 fb z (0, 0, 0)) (h_1 : r_1 = ((xRs fb z tg1 tg2 tg3 tg4 tg5).1.2.1)) (c_2 : ¬ (r_1 = 0)) (e_5 : v_5 = ((-1000100) - fpn_1)) : nww ≤ 6 := by
  first
  | omega
  | with_reducible rfl
  | with_reducible exact okT_0 _
  | with_reducible exact lx_f hz hokT h_1 c_2
  | with_reducible exact lx_n hz hokT h_1 c_2
  | with_reducible exact lx_A hz hokT h_1 c_2 hF_1_2
  | with_reducible exact lx_fn hz hokT h_1 c_2
  | with_reducible exact lx_l hz hokT h_1 c_2
  | with_reducible exact lx_nn hz hokT h_1 c_2
  | with_reducible exact lx_AN hz hokT h_1 c_2 hF_1_2 e_5
  | omega
theorem lf_X7_level_19 {z : Nat} {fb : Nat → Int32} {thh : Nat} {tww : Nat} {tkk : Nat} {tg1 : Nat → Int32} {tg2 : Nat → Int32} {tg3 : Nat → Int32} {tg4 : Nat → Int32} {tg5 : Nat → Int32} {nhh : Nat} {nww : Nat} {nkk : Nat} {az : Nat} {fpn_1 : Int32} {fn_1 : Int32} {kn_1 : Int32} {tv0n_1 : Int32} {tv1n_1 : Int32} {tv2n_1 : Int32} {twn_1 : Nat} {tkn_1 : Nat} {tg1n_1 : Nat → Int32} {tg2n_1 : Nat → Int32} {tg3n_1 : Nat → Int32} {tg4n_1 : Nat → Int32} {tg5n_1 : Nat → Int32} {r_1 : Int32} {v_5 : Int32} (hz : z ≤ 120) (thb : thh ≤ 999) (htww : tww ≤ 6) (htkk : tkk ≤ 6) (nhb : nhh ≤ 999) (nwb : nww ≤ 6) (nkb : nkk ≤ 6) (haz : az ≤ 24) (hokT : okT fb z) (hF_1_0 : twn_1 ≤ 6) (hF_1_1 : tkn_1 ≤ 6) (hF_1_2 : xRs fb z tg1 tg2 tg3 tg4 tg5 = ((fpn_1, fn_1, kn_1), tkn_1, tg2n_1, tg3n_1, tg4n_1, tg5n_1)) (hF_1_3 : (xRw fb z tg1).2 = (twn_1, tg1n_1)) (hF_1_4 : tv0n_1 = xL0 fb z (0, 0, 0)) (hF_1_5 : tv1n_1 = xL1 fb z (0, 0, 0)) (hF_1_6 : tv2n_1 = xL2 fb z (0, 0, 0)) (h_1 : r_1 = ((xRs fb z tg1 tg2 tg3 tg4 tg5).1.2.1)) (c_2 : ¬ (r_1 = 0)) (e_5 : v_5 = ((-1000100) - fpn_1)) : nkk ≤ 6 := by
  first
  | omega
  | with_reducible rfl
  | with_reducible exact okT_0 _
  | with_reducible exact lx_f hz hokT h_1 c_2
  | with_reducible exact lx_n hz hokT h_1 c_2
  | with_reducible exact lx_A hz hokT h_1 c_2 hF_1_2
  | with_reducible exact lx_fn hz hokT h_1 c_2
  | with_reducible exact lx_l hz hokT h_1 c_2
  | with_reducible exact lx_nn hz hokT h_1 c_2
  | with_reducible exact lx_AN hz hokT h_1 c_2 hF_1_2 e_5
  | omega
theorem lf_X7_level_20 {z : Nat} {fb : Nat → Int32} {thh : Nat} {tww : Nat} {tkk : Nat} {tg1 : Nat → Int32} {tg2 : Nat → Int32} {tg3 : Nat → Int32} {tg4 : Nat → Int32} {tg5 : Nat → Int32} {nhh : Nat} {nww : Nat} {nkk : Nat} {az : Nat} {fpn_1 : Int32} {fn_1 : Int32} {kn_1 : Int32} {tv0n_1 : Int32} {tv1n_1 : Int32} {tv2n_1 : Int32} {twn_1 : Nat} {tkn_1 : Nat} {tg1n_1 : Nat → Int32} {tg2n_1 : Nat → Int32} {tg3n_1 : Nat → Int32} {tg4n_1 : Nat → Int32} {tg5n_1 : Nat → Int32} {r_1 : Int32} {v_5 : Int32} (hz : z ≤ 120) (thb : thh ≤ 999) (htww : tww ≤ 6) (htkk : tkk ≤ 6) (nhb : nhh ≤ 999) (nwb : nww ≤ 6) (nkb : nkk ≤ 6) (haz : az ≤ 24) (hokT : okT fb z) (hF_1_0 : twn_1 ≤ 6) (hF_1_1 : tkn_1 ≤ 6) (hF_1_2 : xRs fb z tg1 tg2 tg3 tg4 tg5 = ((fpn_1, fn_1, kn_1), tkn_1, tg2n_1, tg3n_1, tg4n_1, tg5n_1)) (hF_1_3 : (xRw fb z tg1).2 = (twn_1, tg1n_1)) (hF_1_4 : tv0n_1 = xL0 fb z (0, 0, 0)) (hF_1_5 : tv1n_1 = xL1 fb z (0, 0, 0)) (hF_1_6 : tv2n_1 = xL2 fb z (0, 0, 0)) (h_1 : r_1 = ((xRs fb z tg1 tg2 tg3 tg4 tg5).1.2.1)) (c_2 : ¬ (r_1 = 0)) (e_5 : v_5 = ((-1000100) - fpn_1)) : az ≤ 24 := by
  first
  | omega
  | with_reducible rfl
  | with_reducible exact okT_0 _
  | with_reducible exact lx_f hz hokT h_1 c_2
  | with_reducible exact lx_n hz hokT h_1 c_2
  | with_reducible exact lx_A hz hokT h_1 c_2 hF_1_2
  | with_reducible exact lx_fn hz hokT h_1 c_2
  | with_reducible exact lx_l hz hokT h_1 c_2
  | with_reducible exact lx_nn hz hokT h_1 c_2
  | with_reducible exact lx_AN hz hokT h_1 c_2 hF_1_2 e_5
  | omega
theorem lf_X7_level_21 {z : Nat} {fb : Nat → Int32} {thh : Nat} {tww : Nat} {tkk : Nat} {tg1 : Nat → Int32} {tg2 : Nat → Int32} {tg3 : Nat → Int32} {tg4 : Nat → Int32} {tg5 : Nat → Int32} {nhh : Nat} {nww : Nat} {nkk : Nat} {az : Nat} {fpn_1 : Int32} {fn_1 : Int32} {kn_1 : Int32} {tv0n_1 : Int32} {tv1n_1 : Int32} {tv2n_1 : Int32} {twn_1 : Nat} {tkn_1 : Nat} {tg1n_1 : Nat → Int32} {tg2n_1 : Nat → Int32} {tg3n_1 : Nat → Int32} {tg4n_1 : Nat → Int32} {tg5n_1 : Nat → Int32} {r_1 : Int32} {v_5 : Int32} (hz : z ≤ 120) (thb : thh ≤ 999) (htww : tww ≤ 6) (htkk : tkk ≤ 6) (nhb : nhh ≤ 999) (nwb : nww ≤ 6) (nkb : nkk ≤ 6) (haz : az ≤ 24) (hokT : okT fb z) (hF_1_0 : twn_1 ≤ 6) (hF_1_1 : tkn_1 ≤ 6) (hF_1_2 : xRs fb z tg1 tg2 tg3 tg4 tg5 = ((fpn_1, fn_1, kn_1), tkn_1, tg2n_1, tg3n_1, tg4n_1, tg5n_1)) (hF_1_3 : (xRw fb z tg1).2 = (twn_1, tg1n_1)) (hF_1_4 : tv0n_1 = xL0 fb z (0, 0, 0)) (hF_1_5 : tv1n_1 = xL1 fb z (0, 0, 0)) (hF_1_6 : tv2n_1 = xL2 fb z (0, 0, 0)) (h_1 : r_1 = ((xRs fb z tg1 tg2 tg3 tg4 tg5).1.2.1)) (c_2 : ¬ (r_1 = 0)) (e_5 : v_5 = ((-1000100) - fpn_1)) : fb = fb := by
  first
  | omega
  | with_reducible rfl
  | with_reducible exact okT_0 _
  | with_reducible exact lx_f hz hokT h_1 c_2
  | with_reducible exact lx_n hz hokT h_1 c_2
  | with_reducible exact lx_A hz hokT h_1 c_2 hF_1_2
  | with_reducible exact lx_fn hz hokT h_1 c_2
  | with_reducible exact lx_l hz hokT h_1 c_2
  | with_reducible exact lx_nn hz hokT h_1 c_2
  | with_reducible exact lx_AN hz hokT h_1 c_2 hF_1_2 e_5
  | omega
theorem lf_X7_level_22 {xf : Int32} {z : Nat} {fb : Nat → Int32} {thh : Nat} {tww : Nat} {tkk : Nat} {tg1 : Nat → Int32} {tg2 : Nat → Int32} {tg3 : Nat → Int32} {tg4 : Nat → Int32} {tg5 : Nat → Int32} {nhh : Nat} {nww : Nat} {nkk : Nat} {az : Nat} {fpn_1 : Int32} {fn_1 : Int32} {kn_1 : Int32} {tv0n_1 : Int32} {tv1n_1 : Int32} {tv2n_1 : Int32} {twn_1 : Nat} {tkn_1 : Nat} {tg1n_1 : Nat → Int32} {tg2n_1 : Nat → Int32} {tg3n_1 : Nat → Int32} {tg4n_1 : Nat → Int32} {tg5n_1 : Nat → Int32} {r_1 : Int32} {v_5 : Int32} (hz : z ≤ 120) (thb : thh ≤ 999) (htww : tww ≤ 6) (htkk : tkk ≤ 6) (nhb : nhh ≤ 999) (nwb : nww ≤ 6) (nkb : nkk ≤ 6) (haz : az ≤ 24) (hokT : okT fb z) (hF_1_0 : twn_1 ≤ 6) (hF_1_1 : tkn_1 ≤ 6) (hF_1_2 : xRs fb z tg1 tg2 tg3 tg4 tg5 = ((fpn_1, fn_1, kn_1), tkn_1, tg2n_1, tg3n_1, tg4n_1, tg5n_1)) (hF_1_3 : (xRw fb z tg1).2 = (twn_1, tg1n_1)) (hF_1_4 : tv0n_1 = xL0 fb z (0, 0, 0)) (hF_1_5 : tv1n_1 = xL1 fb z (0, 0, 0)) (hF_1_6 : tv2n_1 = xL2 fb z (0, 0, 0)) (h_1 : r_1 = ((xRs fb z tg1 tg2 tg3 tg4 tg5).1.2.1)) (c_2 : ¬ (r_1 = 0)) (e_5 : v_5 = ((-1000100) - fpn_1)) : r_1 = lvF fb z xf := by
  first
  | omega
  | with_reducible rfl
  | with_reducible exact okT_0 _
  | with_reducible exact lx_f hz hokT h_1 c_2
  | with_reducible exact lx_n hz hokT h_1 c_2
  | with_reducible exact lx_A hz hokT h_1 c_2 hF_1_2
  | with_reducible exact lx_fn hz hokT h_1 c_2
  | with_reducible exact lx_l hz hokT h_1 c_2
  | with_reducible exact lx_nn hz hokT h_1 c_2
  | with_reducible exact lx_AN hz hokT h_1 c_2 hF_1_2 e_5
  | omega
theorem lf_X7_level_23 {z : Nat} {fb : Nat → Int32} {thh : Nat} {tww : Nat} {tkk : Nat} {tg1 : Nat → Int32} {tg2 : Nat → Int32} {tg3 : Nat → Int32} {tg4 : Nat → Int32} {tg5 : Nat → Int32} {nhh : Nat} {nww : Nat} {nkk : Nat} {az : Nat} {fpn_1 : Int32} {fn_1 : Int32} {kn_1 : Int32} {tv0n_1 : Int32} {tv1n_1 : Int32} {tv2n_1 : Int32} {twn_1 : Nat} {tkn_1 : Nat} {tg1n_1 : Nat → Int32} {tg2n_1 : Nat → Int32} {tg3n_1 : Nat → Int32} {tg4n_1 : Nat → Int32} {tg5n_1 : Nat → Int32} {r_1 : Int32} {v_5 : Int32} (hz : z ≤ 120) (thb : thh ≤ 999) (htww : tww ≤ 6) (htkk : tkk ≤ 6) (nhb : nhh ≤ 999) (nwb : nww ≤ 6) (nkb : nkk ≤ 6) (haz : az ≤ 24) (hokT : okT fb z) (hF_1_0 : twn_1 ≤ 6) (hF_1_1 : tkn_1 ≤ 6) (hF_1_2 : xRs fb z tg1 tg2 tg3 tg4 tg5 = ((fpn_1, fn_1, kn_1), tkn_1, tg2n_1, tg3n_1, tg4n_1, tg5n_1)) (hF_1_3 : (xRw fb z tg1).2 = (twn_1, tg1n_1)) (hF_1_4 : tv0n_1 = xL0 fb z (0, 0, 0)) (hF_1_5 : tv1n_1 = xL1 fb z (0, 0, 0)) (hF_1_6 : tv2n_1 = xL2 fb z (0, 0, 0)) (h_1 : r_1 = ((xRs fb z tg1 tg2 tg3 tg4 tg5).1.2.1)) (c_2 : ¬ (r_1 = 0)) (e_5 : v_5 = ((-1000100) - fpn_1)) : okT fb 0 := by
  first
  | omega
  | with_reducible rfl
  | with_reducible exact okT_0 _
  | with_reducible exact lx_f hz hokT h_1 c_2
  | with_reducible exact lx_n hz hokT h_1 c_2
  | with_reducible exact lx_A hz hokT h_1 c_2 hF_1_2
  | with_reducible exact lx_fn hz hokT h_1 c_2
  | with_reducible exact lx_l hz hokT h_1 c_2
  | with_reducible exact lx_nn hz hokT h_1 c_2
  | with_reducible exact lx_AN hz hokT h_1 c_2 hF_1_2 e_5
  | omega
theorem lf_X7_level_24 {z : Nat} {fb : Nat → Int32} {thh : Nat} {tww : Nat} {tkk : Nat} {tg1 : Nat → Int32} {tg2 : Nat → Int32} {tg3 : Nat → Int32} {tg4 : Nat → Int32} {tg5 : Nat → Int32} {nv0 : Int32} {nv1 : Int32} {nv2 : Int32} {nv3 : Int32} {nv5 : Int32} {nhh : Nat} {nww : Nat} {nkk : Nat} {ng1 : Nat → Int32} {ng2 : Nat → Int32} {ng3 : Nat → Int32} {ng4 : Nat → Int32} {ng5 : Nat → Int32} {az : Nat} {fpn_1 : Int32} {fn_1 : Int32} {kn_1 : Int32} {tv0n_1 : Int32} {tv1n_1 : Int32} {tv2n_1 : Int32} {twn_1 : Nat} {tkn_1 : Nat} {tg1n_1 : Nat → Int32} {tg2n_1 : Nat → Int32} {tg3n_1 : Nat → Int32} {tg4n_1 : Nat → Int32} {tg5n_1 : Nat → Int32} {r_1 : Int32} {v_5 : Int32} (hz : z ≤ 120) (thb : thh ≤ 999) (htww : tww ≤ 6) (htkk : tkk ≤ 6) (nhb : nhh ≤ 999) (nwb : nww ≤ 6) (nkb : nkk ≤ 6) (haz : az ≤ 24) (hokT : okT fb z) (hF_1_0 : twn_1 ≤ 6) (hF_1_1 : tkn_1 ≤ 6) (hF_1_2 : xRs fb z tg1 tg2 tg3 tg4 tg5 = ((fpn_1, fn_1, kn_1), tkn_1, tg2n_1, tg3n_1, tg4n_1, tg5n_1)) (hF_1_3 : (xRw fb z tg1).2 = (twn_1, tg1n_1)) (hF_1_4 : tv0n_1 = xL0 fb z (0, 0, 0)) (hF_1_5 : tv1n_1 = xL1 fb z (0, 0, 0)) (hF_1_6 : tv2n_1 = xL2 fb z (0, 0, 0)) (h_1 : r_1 = ((xRs fb z tg1 tg2 tg3 tg4 tg5).1.2.1)) (c_2 : ¬ (r_1 = 0)) (e_5 : v_5 = ((-1000100) - fpn_1)) : (nrm nv0 nv1 nv2 nv3 nhh nv5 nww nkk ng1 ng2 ng3 ng4 ng5) = n_lev ((rR fb z).2 = 0) (rR fb z).1.2 (nrm nv0 nv1 nv2 nv3 nhh nv5 nww nkk ng1 ng2 ng3 ng4 ng5) := by
  first
  | omega
  | with_reducible rfl
  | with_reducible exact okT_0 _
  | with_reducible exact lx_f hz hokT h_1 c_2
  | with_reducible exact lx_n hz hokT h_1 c_2
  | with_reducible exact lx_A hz hokT h_1 c_2 hF_1_2
  | with_reducible exact lx_fn hz hokT h_1 c_2
  | with_reducible exact lx_l hz hokT h_1 c_2
  | with_reducible exact lx_nn hz hokT h_1 c_2
  | with_reducible exact lx_AN hz hokT h_1 c_2 hF_1_2 e_5
  | omega
theorem lf_X7_level_25 {z : Nat} {fb : Nat → Int32} {thh : Nat} {tww : Nat} {tkk : Nat} {tg1 : Nat → Int32} {tg2 : Nat → Int32} {tg3 : Nat → Int32} {tg4 : Nat → Int32} {tg5 : Nat → Int32} {nhh : Nat} {nww : Nat} {nkk : Nat} {az : Nat} {fpn_1 : Int32} {fn_1 : Int32} {kn_1 : Int32} {tv0n_1 : Int32} {tv1n_1 : Int32} {tv2n_1 : Int32} {twn_1 : Nat} {tkn_1 : Nat} {tg1n_1 : Nat → Int32} {tg2n_1 : Nat → Int32} {tg3n_1 : Nat → Int32} {tg4n_1 : Nat → Int32} {tg5n_1 : Nat → Int32} {r_1 : Int32} {v_5 : Int32} (hz : z ≤ 120) (thb : thh ≤ 999) (htww : tww ≤ 6) (htkk : tkk ≤ 6) (nhb : nhh ≤ 999) (nwb : nww ≤ 6) (nkb : nkk ≤ 6) (haz : az ≤ 24) (hokT : okT fb z) (hF_1_0 : twn_1 ≤ 6) (hF_1_1 : tkn_1 ≤ 6) (hF_1_2 : xRs fb z tg1 tg2 tg3 tg4 tg5 = ((fpn_1, fn_1, kn_1), tkn_1, tg2n_1, tg3n_1, tg4n_1, tg5n_1)) (hF_1_3 : (xRw fb z tg1).2 = (twn_1, tg1n_1)) (hF_1_4 : tv0n_1 = xL0 fb z (0, 0, 0)) (hF_1_5 : tv1n_1 = xL1 fb z (0, 0, 0)) (hF_1_6 : tv2n_1 = xL2 fb z (0, 0, 0)) (h_1 : r_1 = ((xRs fb z tg1 tg2 tg3 tg4 tg5).1.2.1)) (c_2 : ¬ (r_1 = 0)) (e_5 : v_5 = ((-1000100) - fpn_1)) : az = n_levN ((rR fb z).2 = 0) az := by
  first
  | omega
  | with_reducible rfl
  | with_reducible exact okT_0 _
  | with_reducible exact lx_f hz hokT h_1 c_2
  | with_reducible exact lx_n hz hokT h_1 c_2
  | with_reducible exact lx_A hz hokT h_1 c_2 hF_1_2
  | with_reducible exact lx_fn hz hokT h_1 c_2
  | with_reducible exact lx_l hz hokT h_1 c_2
  | with_reducible exact lx_nn hz hokT h_1 c_2
  | with_reducible exact lx_AN hz hokT h_1 c_2 hF_1_2 e_5
  | omega
theorem lf_X7_level_26 {z : Nat} {fb : Nat → Int32} {thh : Nat} {tww : Nat} {tkk : Nat} {tg1 : Nat → Int32} {tg2 : Nat → Int32} {tg3 : Nat → Int32} {tg4 : Nat → Int32} {tg5 : Nat → Int32} {nhh : Nat} {nww : Nat} {nkk : Nat} {az : Nat} {fpn_1 : Int32} {fn_1 : Int32} {kn_1 : Int32} {tv0n_1 : Int32} {tv1n_1 : Int32} {tv2n_1 : Int32} {twn_1 : Nat} {tkn_1 : Nat} {tg1n_1 : Nat → Int32} {tg2n_1 : Nat → Int32} {tg3n_1 : Nat → Int32} {tg4n_1 : Nat → Int32} {tg5n_1 : Nat → Int32} {r_1 : Int32} {v_5 : Int32} (hz : z ≤ 120) (thb : thh ≤ 999) (htww : tww ≤ 6) (htkk : tkk ≤ 6) (nhb : nhh ≤ 999) (nwb : nww ≤ 6) (nkb : nkk ≤ 6) (haz : az ≤ 24) (hokT : okT fb z) (hF_1_0 : twn_1 ≤ 6) (hF_1_1 : tkn_1 ≤ 6) (hF_1_2 : xRs fb z tg1 tg2 tg3 tg4 tg5 = ((fpn_1, fn_1, kn_1), tkn_1, tg2n_1, tg3n_1, tg4n_1, tg5n_1)) (hF_1_3 : (xRw fb z tg1).2 = (twn_1, tg1n_1)) (hF_1_4 : tv0n_1 = xL0 fb z (0, 0, 0)) (hF_1_5 : tv1n_1 = xL1 fb z (0, 0, 0)) (hF_1_6 : tv2n_1 = xL2 fb z (0, 0, 0)) (h_1 : r_1 = ((xRs fb z tg1 tg2 tg3 tg4 tg5).1.2.1)) (c_2 : ¬ (r_1 = 0)) (e_5 : v_5 = ((-1000100) - fpn_1)) : v_5 = (lvA fb z) := by
  first
  | omega
  | with_reducible rfl
  | with_reducible exact okT_0 _
  | with_reducible exact lx_f hz hokT h_1 c_2
  | with_reducible exact lx_n hz hokT h_1 c_2
  | with_reducible exact lx_A hz hokT h_1 c_2 hF_1_2
  | with_reducible exact lx_fn hz hokT h_1 c_2
  | with_reducible exact lx_l hz hokT h_1 c_2
  | with_reducible exact lx_nn hz hokT h_1 c_2
  | with_reducible exact lx_AN hz hokT h_1 c_2 hF_1_2 e_5
  | omega
set_option maxHeartbeats 4000000 in
set_option maxRecDepth 100000 in
theorem r_X7_level (l : Launch) (dC : Nat → ClassId) (dI : Nat → Nat → Nat) (cI cZ cL cJ : ClassId) (sz : Nat) (x : Nat) (ro : Nat) (ta : Nat) (no : Nat) (ac : Nat) (im : Nat) (tr : Nat) (pl : Nat) (cs : Nat) (ak : Nat) (xf : Int32) (xg : Int32) (bs : Nat) (td : Nat) (z : Nat) (fp : Int32) (f : Int32) (k : Int32) (fb : Nat → Int32) (tv0 : Int32) (tv1 : Int32) (tv2 : Int32) (tv3 : Int32) (tv5 : Int32) (thh : Nat) (tww : Nat) (tkk : Nat) (tb1 : Nat) (tb2 : Nat) (tb3 : Nat) (tb4 : Nat) (tb5 : Nat) (tg1 : Nat → Int32) (tg2 : Nat → Int32) (tg3 : Nat → Int32) (tg4 : Nat → Int32) (tg5 : Nat → Int32) (nv0 : Int32) (nv1 : Int32) (nv2 : Int32) (nv3 : Int32) (nv5 : Int32) (nhh : Nat) (nww : Nat) (nkk : Nat) (nb1 : Nat) (nb2 : Nat) (nb3 : Nat) (nb4 : Nat) (nb5 : Nat) (ng1 : Nat → Int32) (ng2 : Nat → Int32) (ng3 : Nat → Int32) (ng4 : Nat → Int32) (ng5 : Nat → Int32) (be : Nat) (q : Nat) (az : Nat) (hz : z ≤ 120) (thb : thh ≤ 999) (htww : tww ≤ 6) (htkk : tkk ≤ 6) (nhb : nhh ≤ 999) (nwb : nww ≤ 6) (nkb : nkk ≤ 6) (haz : az ≤ 24) (hokT : okT fb z) : Met l yX7_level wsX7_level ({ frames := 6, cells := 0, slots := 0, locals := 131 }) (va_Pc [.ref x] (fun U => U.heap.size = sz ∧ va_P (dC, dI) vwCl [(xo_7_rrrrrrrrrii x ro ta no ac im tr pl cs ak xf xg), (xo_6_ririii ta bs (nI z) td fp f k), (xI bs cI 120 fb), (xo_3_iiiiiiiirrrrr td tv0 tv1 tv2 tv3 (nI thh) tv5 (nI tww) (nI tkk) tb1 tb2 tb3 tb4 tb5), (xI tb1 cI 6 tg1), (xI tb2 cI 6 tg2), (xI tb3 cI 6 tg3), (xI tb4 cI 6 tg4), (xI tb5 cI 6 tg5), (xo_3_iiiiiiiirrrrr no nv0 nv1 nv2 nv3 (nI nhh) nv5 (nI nww) (nI nkk) nb1 nb2 nb3 nb4 nb5), (xI nb1 cI 6 ng1), (xI nb2 cI 6 ng2), (xI nb3 cI 6 ng3), (xI nb4 cI 6 ng4), (xI nb5 cI 6 ng5), (xo_0_rii ac be (nI q) (nI az))] U.heap ∧ va_K (dC, dI) vwCl [(cI, .int), (cZ, .boolean), (cL, .object RX3), (cJ, .array .int)] U ∧ va_D (fun _ => True) [(xo_7_rrrrrrrrrii x ro ta no ac im tr pl cs ak xf xg), (xo_6_ririii ta bs (nI z) td fp f k), (xI bs cI 120 fb), (xo_3_iiiiiiiirrrrr td tv0 tv1 tv2 tv3 (nI thh) tv5 (nI tww) (nI tkk) tb1 tb2 tb3 tb4 tb5), (xI tb1 cI 6 tg1), (xI tb2 cI 6 tg2), (xI tb3 cI 6 tg3), (xI tb4 cI 6 tg4), (xI tb5 cI 6 tg5), (xo_3_iiiiiiiirrrrr no nv0 nv1 nv2 nv3 (nI nhh) nv5 (nI nww) (nI nkk) nb1 nb2 nb3 nb4 nb5), (xI nb1 cI 6 ng1), (xI nb2 cI 6 ng2), (xI nb3 cI 6 ng3), (xI nb4 cI 6 ng4), (xI nb5 cI 6 ng5), (xo_0_rii ac be (nI q) (nI az))])) (va_Qi (fun r (_ : Unit) => r = (lvA fb z)) (fun (_ : Unit) t => ∃ (xfn : Int32) (fpn : Int32) (fn : Int32) (kn : Int32) (fbn : Nat → Int32) (tv0n : Int32) (tv1n : Int32) (tv2n : Int32) (tv3n : Int32) (tv5n : Int32) (tg1n : Nat → Int32) (tg2n : Nat → Int32) (tg3n : Nat → Int32) (tg4n : Nat → Int32) (tg5n : Nat → Int32) (thn : Nat) (twn : Nat) (tkn : Nat) (nv0n : Int32) (nv1n : Int32) (nv2n : Int32) (nv3n : Int32) (nv5n : Int32) (ng1n : Nat → Int32) (ng2n : Nat → Int32) (ng3n : Nat → Int32) (ng4n : Nat → Int32) (ng5n : Nat → Int32) (nhn : Nat) (nwn : Nat) (nkn : Nat) (azn : Nat), va_P (dC, dI) vwCl [(xo_7_rrrrrrrrrii x ro ta no ac im tr pl cs ak xfn xg), (xo_6_ririii ta bs (nI 0) td fpn fn kn), (xI bs cI 120 fbn), (xo_3_iiiiiiiirrrrr td tv0n tv1n tv2n tv3n (nI thn) tv5n (nI twn) (nI tkn) tb1 tb2 tb3 tb4 tb5), (xI tb1 cI 6 tg1n), (xI tb2 cI 6 tg2n), (xI tb3 cI 6 tg3n), (xI tb4 cI 6 tg4n), (xI tb5 cI 6 tg5n), (xo_3_iiiiiiiirrrrr no nv0n nv1n nv2n nv3n (nI nhn) nv5n (nI nwn) (nI nkn) nb1 nb2 nb3 nb4 nb5), (xI nb1 cI 6 ng1n), (xI nb2 cI 6 ng2n), (xI nb3 cI 6 ng3n), (xI nb4 cI 6 ng4n), (xI nb5 cI 6 ng5n), (xo_0_rii ac be (nI q) (nI azn))] t.heap ∧ va_D (va_A [(xo_7_rrrrrrrrrii x ro ta no ac im tr pl cs ak xf xg), (xo_6_ririii ta bs (nI z) td fp f k), (xI bs cI 120 fb), (xo_3_iiiiiiiirrrrr td tv0 tv1 tv2 tv3 (nI thh) tv5 (nI tww) (nI tkk) tb1 tb2 tb3 tb4 tb5), (xI tb1 cI 6 tg1), (xI tb2 cI 6 tg2), (xI tb3 cI 6 tg3), (xI tb4 cI 6 tg4), (xI tb5 cI 6 tg5), (xo_3_iiiiiiiirrrrr no nv0 nv1 nv2 nv3 (nI nhh) nv5 (nI nww) (nI nkk) nb1 nb2 nb3 nb4 nb5), (xI nb1 cI 6 ng1), (xI nb2 cI 6 ng2), (xI nb3 cI 6 ng3), (xI nb4 cI 6 ng4), (xI nb5 cI 6 ng5), (xo_0_rii ac be (nI q) (nI az))] sz) [(xo_7_rrrrrrrrrii x ro ta no ac im tr pl cs ak xfn xg), (xo_6_ririii ta bs (nI 0) td fpn fn kn), (xI bs cI 120 fbn), (xo_3_iiiiiiiirrrrr td tv0n tv1n tv2n tv3n (nI thn) tv5n (nI twn) (nI tkn) tb1 tb2 tb3 tb4 tb5), (xI tb1 cI 6 tg1n), (xI tb2 cI 6 tg2n), (xI tb3 cI 6 tg3n), (xI tb4 cI 6 tg4n), (xI tb5 cI 6 tg5n), (xo_3_iiiiiiiirrrrr no nv0n nv1n nv2n nv3n (nI nhn) nv5n (nI nwn) (nI nkn) nb1 nb2 nb3 nb4 nb5), (xI nb1 cI 6 ng1n), (xI nb2 cI 6 ng2n), (xI nb3 cI 6 ng3n), (xI nb4 cI 6 ng4n), (xI nb5 cI 6 ng5n), (xo_0_rii ac be (nI q) (nI azn))] ∧ thn ≤ 999 ∧ twn ≤ 6 ∧ tkn ≤ 6 ∧ nhn ≤ 999 ∧ nwn ≤ 6 ∧ nkn ≤ 6 ∧ azn ≤ 24 ∧ fbn = fb ∧ xfn = lvF fb z xf ∧ okT fbn 0 ∧ (nrm nv0n nv1n nv2n nv3n nhn nv5n nwn nkn ng1n ng2n ng3n ng4n ng5n) = n_lev ((rR fb z).2 = 0) (rR fb z).1.2 (nrm nv0 nv1 nv2 nv3 nhh nv5 nww nkk ng1 ng2 ng3 ng4 ng5) ∧ azn = n_levN ((rR fb z).2 = 0) az) (va_A [(xo_7_rrrrrrrrrii x ro ta no ac im tr pl cs ak xf xg), (xo_6_ririii ta bs (nI z) td fp f k), (xI bs cI 120 fb), (xo_3_iiiiiiiirrrrr td tv0 tv1 tv2 tv3 (nI thh) tv5 (nI tww) (nI tkk) tb1 tb2 tb3 tb4 tb5), (xI tb1 cI 6 tg1), (xI tb2 cI 6 tg2), (xI tb3 cI 6 tg3), (xI tb4 cI 6 tg4), (xI tb5 cI 6 tg5), (xo_3_iiiiiiiirrrrr no nv0 nv1 nv2 nv3 (nI nhh) nv5 (nI nww) (nI nkk) nb1 nb2 nb3 nb4 nb5), (xI nb1 cI 6 ng1), (xI nb2 cI 6 ng2), (xI nb3 cI 6 ng3), (xI nb4 cI 6 ng4), (xI nb5 cI 6 ng5), (xo_0_rii ac be (nI q) (nI az))] sz)) 0 0 (va_A [(xo_7_rrrrrrrrrii x ro ta no ac im tr pl cs ak xf xg), (xo_6_ririii ta bs (nI z) td fp f k), (xI bs cI 120 fb), (xo_3_iiiiiiiirrrrr td tv0 tv1 tv2 tv3 (nI thh) tv5 (nI tww) (nI tkk) tb1 tb2 tb3 tb4 tb5), (xI tb1 cI 6 tg1), (xI tb2 cI 6 tg2), (xI tb3 cI 6 tg3), (xI tb4 cI 6 tg4), (xI tb5 cI 6 tg5), (xo_3_iiiiiiiirrrrr no nv0 nv1 nv2 nv3 (nI nhh) nv5 (nI nww) (nI nkk) nb1 nb2 nb3 nb4 nb5), (xI nb1 cI 6 ng1), (xI nb2 cI 6 ng2), (xI nb3 cI 6 ng3), (xI nb4 cI 6 ng4), (xI nb5 cI 6 ng5), (xo_0_rii ac be (nI q) (nI az))] sz) := by
  refine Met.ofW (cc := cX7_level) (maxL := 2) (ret := (some .int)) (by decide) rfl ?_
  intro p e s m args below meth c s₁ B hml hv
  obtain ⟨rfl, hsz, hP, hK, hD0⟩ := hv
  have hx := B.exec
  have hb := B.bytes
  have hr := B.returns
  have hts := atoms_spec (ws := wsX7_level) B.pre
  have hown : s.vm.findClass RX7 = some m.cls := findClass_of_methodNamed B.named
  have hlocks := B.notSynchronized
  subst hsz
  have hD := hD0.self (sz := s.heap.size)
  generalize hAe : va_A [(xo_7_rrrrrrrrrii x ro ta no ac im tr pl cs ak xf xg), (xo_6_ririii ta bs (nI z) td fp f k), (xI bs cI 120 fb), (xo_3_iiiiiiiirrrrr td tv0 tv1 tv2 tv3 (nI thh) tv5 (nI tww) (nI tkk) tb1 tb2 tb3 tb4 tb5), (xI tb1 cI 6 tg1), (xI tb2 cI 6 tg2), (xI tb3 cI 6 tg3), (xI tb4 cI 6 tg4), (xI tb5 cI 6 tg5), (xo_3_iiiiiiiirrrrr no nv0 nv1 nv2 nv3 (nI nhh) nv5 (nI nww) (nI nkk) nb1 nb2 nb3 nb4 nb5), (xI nb1 cI 6 ng1), (xI nb2 cI 6 ng2), (xI nb3 cI 6 ng3), (xI nb4 cI 6 ng4), (xI nb5 cI 6 ng5), (xo_0_rii ac be (nI q) (nI az))] s.heap.size = A at hD ⊢
  have hA : ∀ q : Nat, s.heap.size ≤ q → A q := fun q h => by rw [← hAe]; exact Or.inr h
  have hS : va_S A s.heap s.heap [] := va_S.rf
  have hP : va_P (dC, dI) vwCl [(xo_7_rrrrrrrrrii x ro ta no ac im tr pl cs ak xf xg), (xo_6_ririii ta bs (nI z) td fp f k), (xI bs cI 120 fb), (xo_3_iiiiiiiirrrrr td tv0 tv1 tv2 tv3 (nI thh) tv5 (nI tww) (nI tkk) tb1 tb2 tb3 tb4 tb5), (xI tb1 cI 6 tg1), (xI tb2 cI 6 tg2), (xI tb3 cI 6 tg3), (xI tb4 cI 6 tg4), (xI tb5 cI 6 tg5), (xo_3_iiiiiiiirrrrr no nv0 nv1 nv2 nv3 (nI nhh) nv5 (nI nww) (nI nkk) nb1 nb2 nb3 nb4 nb5), (xI nb1 cI 6 ng1), (xI nb2 cI 6 ng2), (xI nb3 cI 6 ng3), (xI nb4 cI 6 ng4), (xI nb5 cI 6 ng5), (xo_0_rii ac be (nI q) (nI az))] s.heap := hP
  have hl := lv_entry ([.ref x]) (n := 2) (Nat.le_of_ble_eq_true rfl)
  rw [lg_entry_eq]
  generalize (lg_sl ([.ref x]) ++ List.replicate (2 - (lg_sl ([.ref x])).length) Slot.unset).toArray = ls at hl ⊢
  have hl : lv_has ls 2 [(0, .ref x)] := hl
  refine lv_aload_n hx hb dX7_level_0 rfl (lv_at hl 0 rfl) ?_
  refine va_get (D := (dC, dI)) (ci := 7) (v := .ref ta) (C := RX7) (T := TX7) (N := 11) hx hb hts i_X7_level_X7 hown hK hP 0 rfl rfl 1 (by decide) (hts _ mx_X7_level_1) (fun _ h9 => h9) rfl dX7_level_1 ?_
  have hc_1 := cutW (wc := [(xo_6_ririii ta bs (nI z) td fp f k), (xI bs cI 120 fb), (xo_3_iiiiiiiirrrrr td tv0 tv1 tv2 tv3 (nI thh) tv5 (nI tww) (nI tkk) tb1 tb2 tb3 tb4 tb5), (xI tb1 cI 6 tg1), (xI tb2 cI 6 tg2), (xI tb3 cI 6 tg3), (xI tb4 cI 6 tg4), (xI tb5 cI 6 tg5)]) hP hD hS hA [1, 2, 3, 4, 5, 6, 7, 8] (by decide +kernel) rfl
  refine va_calli (va_runV (As := []) (rest := []) ⟨hx, hb, hml, hown, hts⟩ (r_X6_read l dC dI cI cZ cL cJ s.heap.size ta bs td z fp f k fb tv0 tv1 tv2 tv3 tv5 thh tww tkk tb1 tb2 tb3 tb4 tb5 tg1 tg2 tg3 tg4 tg5 (thb) (hz) (htww) (htkk)) (cwV 0 hts gX7_level_X6_read rfl rfl rfl (by decide +kernel) ⟨Nat.le_of_ble_eq_true rfl, Nat.le_of_ble_eq_true rfl⟩) (pvW 6 1 hK hP rfl rfl hc_1) rfl rfl hl.1 rfl (lv_room (Nat.le_of_ble_eq_true rfl)) dX7_level_4 ⟨Nat.le_of_ble_eq_true rfl, Nat.le_of_ble_eq_true rfl⟩) hS (fun q _ h => hc_1.2.2 q h) hc_1.2.2 (fun r_1 u_1 t_1 H1 locs ht hvm h_1 hB hz1 hk1 hS => ?_)
  refine xl_13_9 hB (fun fpn_1 fn_1 kn_1 tv0n_1 tv1n_1 tv2n_1 twn_1 tkn_1 tg1n_1 tg2n_1 tg3n_1 tg4n_1 tg5n_1 hP1 hD1 hF_1_0 hF_1_1 hF_1_2 hF_1_3 hF_1_4 hF_1_5 hF_1_6 => ?_)
  clear hB
  rw [ht] at hP1
  obtain ⟨hP, hD⟩ := va_join (wr := [(xo_7_rrrrrrrrrii x ro ta no ac im tr pl cs ak xf xg), (xo_3_iiiiiiiirrrrr no nv0 nv1 nv2 nv3 (nI nhh) nv5 (nI nww) (nI nkk) nb1 nb2 nb3 nb4 nb5), (xI nb1 cI 6 ng1), (xI nb2 cI 6 ng2), (xI nb3 cI 6 ng3), (xI nb4 cI 6 ng4), (xI nb5 cI 6 ng5), (xo_0_rii ac be (nI q) (nI az))]) (w1 := [(xo_6_ririii ta bs (nI 0) td fpn_1 fn_1 kn_1), (xI bs cI 120 fb), (xo_3_iiiiiiiirrrrr td tv0n_1 tv1n_1 tv2n_1 1 (nI 0) 0 (nI twn_1) (nI tkn_1) tb1 tb2 tb3 tb4 tb5), (xI tb1 cI 6 tg1n_1), (xI tb2 cI 6 tg2n_1), (xI tb3 cI 6 tg3n_1), (xI tb4 cI 6 tg4n_1), (xI tb5 cI 6 tg5n_1)]) hP hD [1, 2, 3, 4, 5, 6, 7, 8] [0, 9, 10, 11, 12, 13, 14, 15] rfl rfl (by decide +kernel) (by decide +kernel) hk1 hc_1.2.2 hP1 hD1
  generalize H1 = H at hP hS ⊢
  have hP : va_P (dC, dI) vwCl [(xo_7_rrrrrrrrrii x ro ta no ac im tr pl cs ak xf xg), (xo_3_iiiiiiiirrrrr no nv0 nv1 nv2 nv3 (nI nhh) nv5 (nI nww) (nI nkk) nb1 nb2 nb3 nb4 nb5), (xI nb1 cI 6 ng1), (xI nb2 cI 6 ng2), (xI nb3 cI 6 ng3), (xI nb4 cI 6 ng4), (xI nb5 cI 6 ng5), (xo_0_rii ac be (nI q) (nI az)), (xo_6_ririii ta bs (nI 0) td fpn_1 fn_1 kn_1), (xI bs cI 120 fb), (xo_3_iiiiiiiirrrrr td tv0n_1 tv1n_1 tv2n_1 1 (nI 0) 0 (nI twn_1) (nI tkn_1) tb1 tb2 tb3 tb4 tb5), (xI tb1 cI 6 tg1n_1), (xI tb2 cI 6 tg2n_1), (xI tb3 cI 6 tg3n_1), (xI tb4 cI 6 tg4n_1), (xI tb5 cI 6 tg5n_1)] H := hP
  have hD := dto hP hD
  refine lv_istore_n (lv' := [(1, .int r_1), (0, .ref x)]) hx hb dX7_level_7 rfl hl (by decide) rfl (fun ls hl => ?_)
  refine lv_iload_n hx hb dX7_level_8 rfl (lv_at hl 0 rfl) ?_
  refine lv_if_eq (tgt := 28) hx hb dX7_level_9 (by decide) (fun c_2 => ?_) (fun c_2 => ?_)
  · skip
    refine lv_aload_n hx hb dX7_level_28 rfl (lv_at hl 1 rfl) ?_
    refine va_get (D := (dC, dI)) (ci := 7) (v := .ref no) (C := RX7) (T := TX7) (N := 11) hx hb hts i_X7_level_X7 hown hK hP 0 rfl rfl 2 (by decide) (hts _ mx_X7_level_5) (fun _ h9 => h9) rfl dX7_level_29 ?_
    refine lv_aload_n hx hb dX7_level_32 rfl (lv_at hl 1 rfl) ?_
    refine va_get (D := (dC, dI)) (ci := 7) (v := .ref ta) (C := RX7) (T := TX7) (N := 11) hx hb hts i_X7_level_X7 hown hK hP 0 rfl rfl 1 (by decide) (hts _ mx_X7_level_1) (fun _ h9 => h9) rfl dX7_level_33 ?_
    refine va_get (D := (dC, dI)) (ci := 6) (v := .ref td) (C := RX6) (T := TX6) (N := 6) hx hb hts i_X7_level_X6 hown hK hP 8 rfl rfl 2 (by decide) (hts _ mx_X7_level_6) (fun _ h9 => h9) rfl dX7_level_36 ?_
    have hc_3 := cutW (wc := [(xo_3_iiiiiiiirrrrr no nv0 nv1 nv2 nv3 (nI nhh) nv5 (nI nww) (nI nkk) nb1 nb2 nb3 nb4 nb5), (xI nb1 cI 6 ng1), (xI nb2 cI 6 ng2), (xI nb3 cI 6 ng3), (xI nb4 cI 6 ng4), (xI nb5 cI 6 ng5), (xo_3_iiiiiiiirrrrr td tv0n_1 tv1n_1 tv2n_1 1 (nI 0) 0 (nI twn_1) (nI tkn_1) tb1 tb2 tb3 tb4 tb5), (xI tb1 cI 6 tg1n_1), (xI tb2 cI 6 tg2n_1), (xI tb3 cI 6 tg3n_1), (xI tb4 cI 6 tg4n_1), (xI tb5 cI 6 tg5n_1)]) hP hD hS hA [1, 2, 3, 4, 5, 6, 10, 11, 12, 13, 14, 15] (by decide +kernel) rfl
    refine va_callv (va_runV (As := [.ref td]) (rest := []) ⟨hx, hb, hml, hown, hts⟩ (r_X3_becomeLike l dC dI cI cZ cL cJ H.size no nv0 nv1 nv2 nv3 (nI nhh) nv5 (nI nww) (nI nkk) nb1 nb2 nb3 nb4 nb5 ng1 ng2 ng3 ng4 ng5 td tv0n_1 tv1n_1 tv2n_1 1 (nI 0) 0 (nI twn_1) (nI tkn_1) tb1 tb2 tb3 tb4 tb5 tg1n_1 tg2n_1 tg3n_1 tg4n_1 tg5n_1 ) (cwV 1 hts gX7_level_X3_becomeLike rfl rfl rfl (by decide +kernel) ⟨Nat.le_of_ble_eq_true rfl, Nat.le_of_ble_eq_true rfl⟩) (pvW 3 1 hK hP rfl rfl hc_3) rfl rfl hl.1 rfl (lv_room (Nat.le_of_ble_eq_true rfl)) dX7_level_39 ⟨Nat.le_of_ble_eq_true rfl, Nat.le_of_ble_eq_true rfl⟩) hS (fun q _ h => hc_3.2.2 q h) hc_3.2.2 (fun u_3 t_3 H1 locs ht hvm h_3 hB hz1 hk1 hS => ?_)
    refine xl_5_7 hB (fun f1n_3 f2n_3 f3n_3 f4n_3 f5n_3 hP1 hD1 hF_3_0 hF_3_1 hF_3_2 hF_3_3 hF_3_4 => ?_)
    clear hB
    rw [ht] at hP1
    obtain ⟨hP, hD⟩ := va_join (wr := [(xo_7_rrrrrrrrrii x ro ta no ac im tr pl cs ak xf xg), (xo_0_rii ac be (nI q) (nI az)), (xo_6_ririii ta bs (nI 0) td fpn_1 fn_1 kn_1), (xI bs cI 120 fb)]) (w1 := [(xo_3_iiiiiiiirrrrr no tv0n_1 tv1n_1 tv2n_1 1 (nI 0) 0 (nI twn_1) (nI tkn_1) nb1 nb2 nb3 nb4 nb5), (xI nb1 cI 6 f1n_3), (xI nb2 cI 6 f2n_3), (xI nb3 cI 6 f3n_3), (xI nb4 cI 6 f4n_3), (xI nb5 cI 6 f5n_3), (xo_3_iiiiiiiirrrrr td tv0n_1 tv1n_1 tv2n_1 1 (nI 0) 0 (nI twn_1) (nI tkn_1) tb1 tb2 tb3 tb4 tb5), (xI tb1 cI 6 tg1n_1), (xI tb2 cI 6 tg2n_1), (xI tb3 cI 6 tg3n_1), (xI tb4 cI 6 tg4n_1), (xI tb5 cI 6 tg5n_1)]) hP hD [1, 2, 3, 4, 5, 6, 10, 11, 12, 13, 14, 15] [0, 7, 8, 9] rfl rfl (by decide +kernel) (by decide +kernel) hk1 hc_3.2.2 hP1 hD1
    generalize H1 = H at hP hS ⊢
    have hP : va_P (dC, dI) vwCl [(xo_7_rrrrrrrrrii x ro ta no ac im tr pl cs ak xf xg), (xo_0_rii ac be (nI q) (nI az)), (xo_6_ririii ta bs (nI 0) td fpn_1 fn_1 kn_1), (xI bs cI 120 fb), (xo_3_iiiiiiiirrrrr no tv0n_1 tv1n_1 tv2n_1 1 (nI 0) 0 (nI twn_1) (nI tkn_1) nb1 nb2 nb3 nb4 nb5), (xI nb1 cI 6 f1n_3), (xI nb2 cI 6 f2n_3), (xI nb3 cI 6 f3n_3), (xI nb4 cI 6 f4n_3), (xI nb5 cI 6 f5n_3), (xo_3_iiiiiiiirrrrr td tv0n_1 tv1n_1 tv2n_1 1 (nI 0) 0 (nI twn_1) (nI tkn_1) tb1 tb2 tb3 tb4 tb5), (xI tb1 cI 6 tg1n_1), (xI tb2 cI 6 tg2n_1), (xI tb3 cI 6 tg3n_1), (xI tb4 cI 6 tg4n_1), (xI tb5 cI 6 tg5n_1)] H := hP
    have hD := dto hP hD
    refine lv_aload_n hx hb dX7_level_42 rfl (lv_at hl 1 rfl) ?_
    refine va_get (D := (dC, dI)) (ci := 7) (v := .ref ac) (C := RX7) (T := TX7) (N := 11) hx hb hts i_X7_level_X7 hown hK hP 0 rfl rfl 3 (by decide) (hts _ mx_X7_level_7) (fun _ h9 => h9) rfl dX7_level_43 ?_
    have hc_4 := cutW (wc := [(xo_0_rii ac be (nI q) (nI az))]) hP hD hS hA [1] (by decide +kernel) rfl
    refine va_callv (va_runV (As := []) (rest := []) ⟨hx, hb, hml, hown, hts⟩ (r_X0_forget l dC dI cI cZ cL cJ H.size ac be q az ) (cwV 0 hts gX7_level_X0_forget rfl rfl rfl (by decide +kernel) ⟨Nat.le_of_ble_eq_true rfl, Nat.le_of_ble_eq_true rfl⟩) (pvW 0 1 hK hP rfl rfl hc_4) rfl rfl hl.1 rfl (lv_room (Nat.le_of_ble_eq_true rfl)) dX7_level_46 ⟨Nat.le_of_ble_eq_true rfl, Nat.le_of_ble_eq_true rfl⟩) hS (fun q _ h => hc_4.2.2 q h) hc_4.2.2 (fun u_4 t_4 H1 locs ht hvm h_4 hB hz1 hk1 hS => ?_)
    refine xl_0_2 hB (fun hP1 hD1 => ?_)
    clear hB
    rw [ht] at hP1
    obtain ⟨hP, hD⟩ := va_join (wr := [(xo_7_rrrrrrrrrii x ro ta no ac im tr pl cs ak xf xg), (xo_6_ririii ta bs (nI 0) td fpn_1 fn_1 kn_1), (xI bs cI 120 fb), (xo_3_iiiiiiiirrrrr no tv0n_1 tv1n_1 tv2n_1 1 (nI 0) 0 (nI twn_1) (nI tkn_1) nb1 nb2 nb3 nb4 nb5), (xI nb1 cI 6 f1n_3), (xI nb2 cI 6 f2n_3), (xI nb3 cI 6 f3n_3), (xI nb4 cI 6 f4n_3), (xI nb5 cI 6 f5n_3), (xo_3_iiiiiiiirrrrr td tv0n_1 tv1n_1 tv2n_1 1 (nI 0) 0 (nI twn_1) (nI tkn_1) tb1 tb2 tb3 tb4 tb5), (xI tb1 cI 6 tg1n_1), (xI tb2 cI 6 tg2n_1), (xI tb3 cI 6 tg3n_1), (xI tb4 cI 6 tg4n_1), (xI tb5 cI 6 tg5n_1)]) (w1 := [(xo_0_rii ac be (nI q) (nI 0))]) hP hD [1] [0, 2, 3, 4, 5, 6, 7, 8, 9, 10, 11, 12, 13, 14, 15] rfl rfl (by decide +kernel) (by decide +kernel) hk1 hc_4.2.2 hP1 hD1
    generalize H1 = H at hP hS ⊢
    have hP : va_P (dC, dI) vwCl [(xo_7_rrrrrrrrrii x ro ta no ac im tr pl cs ak xf xg), (xo_6_ririii ta bs (nI 0) td fpn_1 fn_1 kn_1), (xI bs cI 120 fb), (xo_3_iiiiiiiirrrrr no tv0n_1 tv1n_1 tv2n_1 1 (nI 0) 0 (nI twn_1) (nI tkn_1) nb1 nb2 nb3 nb4 nb5), (xI nb1 cI 6 f1n_3), (xI nb2 cI 6 f2n_3), (xI nb3 cI 6 f3n_3), (xI nb4 cI 6 f4n_3), (xI nb5 cI 6 f5n_3), (xo_3_iiiiiiiirrrrr td tv0n_1 tv1n_1 tv2n_1 1 (nI 0) 0 (nI twn_1) (nI tkn_1) tb1 tb2 tb3 tb4 tb5), (xI tb1 cI 6 tg1n_1), (xI tb2 cI 6 tg2n_1), (xI tb3 cI 6 tg3n_1), (xI tb4 cI 6 tg4n_1), (xI tb5 cI 6 tg5n_1), (xo_0_rii ac be (nI q) (nI 0))] H := hP
    have hD := dto hP hD
    refine lv_aload_n hx hb dX7_level_49 rfl (lv_at hl 1 rfl) ?_
    refine va_get (D := (dC, dI)) (ci := 7) (v := .ref no) (C := RX7) (T := TX7) (N := 11) hx hb hts i_X7_level_X7 hown hK hP 0 rfl rfl 2 (by decide) (hts _ mx_X7_level_5) (fun _ h9 => h9) rfl dX7_level_50 ?_
    refine va_get (D := (dC, dI)) (ci := 3) (v := .int (nI tkn_1)) (C := RX3) (T := TX3) (N := 13) hx hb hts i_X7_level_X3 hown hK hP 3 rfl rfl 7 (by decide) (hts _ mx_X7_level_8) (fun _ h9 => h9) rfl dX7_level_53 ?_
    have hX9 := cut2 (wc := [(xo_7_rrrrrrrrrii x ro ta no ac im tr pl cs ak xf xg), (xo_6_ririii ta bs (nI 0) td fpn_1 fn_1 kn_1), (xI bs cI 120 fb), (xo_3_iiiiiiiirrrrr td tv0n_1 tv1n_1 tv2n_1 1 (nI 0) 0 (nI twn_1) (nI tkn_1) tb1 tb2 tb3 tb4 tb5), (xI tb1 cI 6 tg1n_1), (xI tb2 cI 6 tg2n_1), (xI tb3 cI 6 tg3n_1), (xI tb4 cI 6 tg4n_1), (xI tb5 cI 6 tg5n_1), (xo_3_iiiiiiiirrrrr no tv0n_1 tv1n_1 tv2n_1 1 (nI 0) 0 (nI twn_1) (nI tkn_1) nb1 nb2 nb3 nb4 nb5), (xI nb1 cI 6 f1n_3), (xI nb2 cI 6 f2n_3), (xI nb3 cI 6 f3n_3), (xI nb4 cI 6 f4n_3), (xI nb5 cI 6 f5n_3), (xo_0_rii ac be (nI q) (nI 0))]) hP hD [0, 1, 2, 9, 10, 11, 12, 13, 14, 3, 4, 5, 6, 7, 8, 15] (by decide +kernel) rfl
    exact W.iret (v := (nI tkn_1)) hx hb hr (fun t ht hW => ⟨⟨(nI tkn_1), (), rfl, (lf_X7_level_13 hz thb htww htkk nhb nwb nkb haz hokT hF_1_0 hF_1_1 hF_1_2 hF_1_3 hF_1_4 hF_1_5 hF_1_6 h_1 c_2 hF_3_0 hF_3_1 hF_3_2 hF_3_3 hF_3_4), ⟨xf, fpn_1, fn_1, kn_1, fb, tv0n_1, tv1n_1, tv2n_1, 1, 0, tg1n_1, tg2n_1, tg3n_1, tg4n_1, tg5n_1, 0, twn_1, tkn_1, tv0n_1, tv1n_1, tv2n_1, 1, 0, f1n_3, f2n_3, f3n_3, f4n_3, f5n_3, 0, twn_1, tkn_1, 0, va_Ht ht hX9.1, hX9.2, (lf_X7_level_1 hz thb htww htkk nhb nwb nkb haz hokT hF_1_0 hF_1_1 hF_1_2 hF_1_3 hF_1_4 hF_1_5 hF_1_6 h_1 c_2 hF_3_0 hF_3_1 hF_3_2 hF_3_3 hF_3_4), (lf_X7_level_2 hz thb htww htkk nhb nwb nkb haz hokT hF_1_0 hF_1_1 hF_1_2 hF_1_3 hF_1_4 hF_1_5 hF_1_6 h_1 c_2 hF_3_0 hF_3_1 hF_3_2 hF_3_3 hF_3_4), (lf_X7_level_3 hz thb htww htkk nhb nwb nkb haz hokT hF_1_0 hF_1_1 hF_1_2 hF_1_3 hF_1_4 hF_1_5 hF_1_6 h_1 c_2 hF_3_0 hF_3_1 hF_3_2 hF_3_3 hF_3_4), (lf_X7_level_4 hz thb htww htkk nhb nwb nkb haz hokT hF_1_0 hF_1_1 hF_1_2 hF_1_3 hF_1_4 hF_1_5 hF_1_6 h_1 c_2 hF_3_0 hF_3_1 hF_3_2 hF_3_3 hF_3_4), (lf_X7_level_5 hz thb htww htkk nhb nwb nkb haz hokT hF_1_0 hF_1_1 hF_1_2 hF_1_3 hF_1_4 hF_1_5 hF_1_6 h_1 c_2 hF_3_0 hF_3_1 hF_3_2 hF_3_3 hF_3_4), (lf_X7_level_6 hz thb htww htkk nhb nwb nkb haz hokT hF_1_0 hF_1_1 hF_1_2 hF_1_3 hF_1_4 hF_1_5 hF_1_6 h_1 c_2 hF_3_0 hF_3_1 hF_3_2 hF_3_3 hF_3_4), (lf_X7_level_7 hz thb htww htkk nhb nwb nkb haz hokT hF_1_0 hF_1_1 hF_1_2 hF_1_3 hF_1_4 hF_1_5 hF_1_6 h_1 c_2 hF_3_0 hF_3_1 hF_3_2 hF_3_3 hF_3_4), (lf_X7_level_8 hz thb htww htkk nhb nwb nkb haz hokT hF_1_0 hF_1_1 hF_1_2 hF_1_3 hF_1_4 hF_1_5 hF_1_6 h_1 c_2 hF_3_0 hF_3_1 hF_3_2 hF_3_3 hF_3_4), (lf_X7_level_9 hz thb htww htkk nhb nwb nkb haz hokT hF_1_0 hF_1_1 hF_1_2 hF_1_3 hF_1_4 hF_1_5 hF_1_6 h_1 c_2 hF_3_0 hF_3_1 hF_3_2 hF_3_3 hF_3_4), (lf_X7_level_10 hz thb htww htkk nhb nwb nkb haz hokT hF_1_0 hF_1_1 hF_1_2 hF_1_3 hF_1_4 hF_1_5 hF_1_6 h_1 c_2 hF_3_0 hF_3_1 hF_3_2 hF_3_3 hF_3_4), (lf_X7_level_11 hz thb htww htkk nhb nwb nkb haz hokT hF_1_0 hF_1_1 hF_1_2 hF_1_3 hF_1_4 hF_1_5 hF_1_6 h_1 c_2 hF_3_0 hF_3_1 hF_3_2 hF_3_3 hF_3_4), (lf_X7_level_12 hz thb htww htkk nhb nwb nkb haz hokT hF_1_0 hF_1_1 hF_1_2 hF_1_3 hF_1_4 hF_1_5 hF_1_6 h_1 c_2 hF_3_0 hF_3_1 hF_3_2 hF_3_3 hF_3_4)⟩⟩, hS.F ht⟩) hS.2.2 dX7_level_56
  · skip
    refine lv_aload_n hx hb dX7_level_12 rfl (lv_at hl 1 rfl) ?_
    refine lv_iload_n hx hb dX7_level_13 rfl (lv_at hl 0 rfl) ?_
    refine va_put (D := (dC, dI)) (ci := 7) (v := .int r_1) (ty := .int) (C := RX7) (T := TX7) (N := 11) hx hb hts i_X7_level_X7 tyX7 tyX7_ok nmX7 hown hK hP hD hS 0 rfl rfl 9 (by decide) (hts _ mx_X7_level_2) (fun _ h9 => h9) rfl (by decide +kernel) rfl rfl (Nat.le_of_ble_eq_true rfl) dX7_level_14 (fun H locs hP hD hS => ?_)
    have hP : va_P (dC, dI) vwCl [(xo_7_rrrrrrrrrii x ro ta no ac im tr pl cs ak r_1 xg), (xo_3_iiiiiiiirrrrr no nv0 nv1 nv2 nv3 (nI nhh) nv5 (nI nww) (nI nkk) nb1 nb2 nb3 nb4 nb5), (xI nb1 cI 6 ng1), (xI nb2 cI 6 ng2), (xI nb3 cI 6 ng3), (xI nb4 cI 6 ng4), (xI nb5 cI 6 ng5), (xo_0_rii ac be (nI q) (nI az)), (xo_6_ririii ta bs (nI 0) td fpn_1 fn_1 kn_1), (xI bs cI 120 fb), (xo_3_iiiiiiiirrrrr td tv0n_1 tv1n_1 tv2n_1 1 (nI 0) 0 (nI twn_1) (nI tkn_1) tb1 tb2 tb3 tb4 tb5), (xI tb1 cI 6 tg1n_1), (xI tb2 cI 6 tg2n_1), (xI tb3 cI 6 tg3n_1), (xI tb4 cI 6 tg4n_1), (xI tb5 cI 6 tg5n_1)] H := hP
    have hD := dto hP hD
    refine lv_ldc (own := RX7) (v := (-1000100)) hx hb hown (hts _ mx_X7_level_3) dX7_level_17 ?_
    refine lv_aload_n hx hb dX7_level_19 rfl (lv_at hl 1 rfl) ?_
    refine va_get (D := (dC, dI)) (ci := 7) (v := .ref ta) (C := RX7) (T := TX7) (N := 11) hx hb hts i_X7_level_X7 hown hK hP 0 rfl rfl 1 (by decide) (hts _ mx_X7_level_1) (fun _ h9 => h9) rfl dX7_level_20 ?_
    refine va_get (D := (dC, dI)) (ci := 6) (v := .int fpn_1) (C := RX6) (T := TX6) (N := 6) hx hb hts i_X7_level_X6 hown hK hP 8 rfl rfl 3 (by decide) (hts _ mx_X7_level_4) (fun _ h9 => h9) rfl dX7_level_23 ?_
    refine lv_isub hx hb dX7_level_26 ?_
    refine lv_topi (fun v_5 e_5 => ?_)
    have hX9 := cut2 (wc := [(xo_7_rrrrrrrrrii x ro ta no ac im tr pl cs ak r_1 xg), (xo_6_ririii ta bs (nI 0) td fpn_1 fn_1 kn_1), (xI bs cI 120 fb), (xo_3_iiiiiiiirrrrr td tv0n_1 tv1n_1 tv2n_1 1 (nI 0) 0 (nI twn_1) (nI tkn_1) tb1 tb2 tb3 tb4 tb5), (xI tb1 cI 6 tg1n_1), (xI tb2 cI 6 tg2n_1), (xI tb3 cI 6 tg3n_1), (xI tb4 cI 6 tg4n_1), (xI tb5 cI 6 tg5n_1), (xo_3_iiiiiiiirrrrr no nv0 nv1 nv2 nv3 (nI nhh) nv5 (nI nww) (nI nkk) nb1 nb2 nb3 nb4 nb5), (xI nb1 cI 6 ng1), (xI nb2 cI 6 ng2), (xI nb3 cI 6 ng3), (xI nb4 cI 6 ng4), (xI nb5 cI 6 ng5), (xo_0_rii ac be (nI q) (nI az))]) hP hD [0, 8, 9, 10, 11, 12, 13, 14, 15, 1, 2, 3, 4, 5, 6, 7] (by decide +kernel) rfl
    exact W.iret (v := v_5) hx hb hr (fun t ht hW => ⟨⟨v_5, (), rfl, (lf_X7_level_26 hz thb htww htkk nhb nwb nkb haz hokT hF_1_0 hF_1_1 hF_1_2 hF_1_3 hF_1_4 hF_1_5 hF_1_6 h_1 c_2 e_5), ⟨r_1, fpn_1, fn_1, kn_1, fb, tv0n_1, tv1n_1, tv2n_1, 1, 0, tg1n_1, tg2n_1, tg3n_1, tg4n_1, tg5n_1, 0, twn_1, tkn_1, nv0, nv1, nv2, nv3, nv5, ng1, ng2, ng3, ng4, ng5, nhh, nww, nkk, az, va_Ht ht hX9.1, hX9.2, (lf_X7_level_14 hz thb htww htkk nhb nwb nkb haz hokT hF_1_0 hF_1_1 hF_1_2 hF_1_3 hF_1_4 hF_1_5 hF_1_6 h_1 c_2 e_5), (lf_X7_level_15 hz thb htww htkk nhb nwb nkb haz hokT hF_1_0 hF_1_1 hF_1_2 hF_1_3 hF_1_4 hF_1_5 hF_1_6 h_1 c_2 e_5), (lf_X7_level_16 hz thb htww htkk nhb nwb nkb haz hokT hF_1_0 hF_1_1 hF_1_2 hF_1_3 hF_1_4 hF_1_5 hF_1_6 h_1 c_2 e_5), (lf_X7_level_17 hz thb htww htkk nhb nwb nkb haz hokT hF_1_0 hF_1_1 hF_1_2 hF_1_3 hF_1_4 hF_1_5 hF_1_6 h_1 c_2 e_5), (lf_X7_level_18 hz thb htww htkk nhb nwb nkb haz hokT hF_1_0 hF_1_1 hF_1_2 hF_1_3 hF_1_4 hF_1_5 hF_1_6 h_1 c_2 e_5), (lf_X7_level_19 hz thb htww htkk nhb nwb nkb haz hokT hF_1_0 hF_1_1 hF_1_2 hF_1_3 hF_1_4 hF_1_5 hF_1_6 h_1 c_2 e_5), (lf_X7_level_20 hz thb htww htkk nhb nwb nkb haz hokT hF_1_0 hF_1_1 hF_1_2 hF_1_3 hF_1_4 hF_1_5 hF_1_6 h_1 c_2 e_5), (lf_X7_level_21 hz thb htww htkk nhb nwb nkb haz hokT hF_1_0 hF_1_1 hF_1_2 hF_1_3 hF_1_4 hF_1_5 hF_1_6 h_1 c_2 e_5), (lf_X7_level_22 hz thb htww htkk nhb nwb nkb haz hokT hF_1_0 hF_1_1 hF_1_2 hF_1_3 hF_1_4 hF_1_5 hF_1_6 h_1 c_2 e_5), (lf_X7_level_23 hz thb htww htkk nhb nwb nkb haz hokT hF_1_0 hF_1_1 hF_1_2 hF_1_3 hF_1_4 hF_1_5 hF_1_6 h_1 c_2 e_5), (lf_X7_level_24 hz thb htww htkk nhb nwb nkb haz hokT hF_1_0 hF_1_1 hF_1_2 hF_1_3 hF_1_4 hF_1_5 hF_1_6 h_1 c_2 e_5), (lf_X7_level_25 hz thb htww htkk nhb nwb nkb haz hokT hF_1_0 hF_1_1 hF_1_2 hF_1_3 hF_1_4 hF_1_5 hF_1_6 h_1 c_2 e_5)⟩⟩, hS.F ht⟩) hS.2.2 dX7_level_27
theorem lf_X7_row_1 {fl : Nat → Int32} {fe : Nat → Int32} {y0 : Nat} {y1 : Nat} {y2 : Nat} {y3 : Nat} {y4 : Nat} {y5 : Nat} {y6 : Nat} {y7 : Nat} {fi : Nat → Option Nat} {k0 : Int32} {k1 : Int32} {k2 : Int32} (hfi : fi 0 = some y0 ∧ fi 1 = some y1 ∧ fi 2 = some y2 ∧ fi 3 = some y3 ∧ fi 4 = some y4 ∧ fi 5 = some y5 ∧ fi 6 = some y6 ∧ fi 7 = some y7) (hfe : ∀ jq : Nat, jq < 8 → ∃ q : Nat, q ≤ 40 ∧ fe jq = nI q) (f_1_0_0 : (k0 < 0 ∨ 8 ≤ k0)) : abl fl = sr_l (abl fl) k0 k1 k2 := by
  first
  | (subst_vars; with_reducible exact (an_row_ok (by assumption) (by assumption) (by omega)).symm)
  | (subst_vars; with_reducible exact (an_row_neg (by assumption) (by assumption) (by assumption) (by assumption)).symm)
  | (unfold an_row; rw [if_pos (by grind)])
  | (unfold an_row; grind)
  | (unfold sr_l; rw [if_neg (by grind)])
  | (unfold sr_n; rw [if_neg (by grind)])
  | (subst_vars; rw [sr_l_ok (by assumption) (by assumption) (by omega)]; with_reducible exact abl_up (by omega))
  | (subst_vars; rw [sr_n_ok (by assumption) (by assumption) (by omega)]; with_reducible exact abn_up (by omega) (by assumption))
theorem lf_X7_row_2 {fl : Nat → Int32} {fe : Nat → Int32} {y0 : Nat} {y1 : Nat} {y2 : Nat} {y3 : Nat} {y4 : Nat} {y5 : Nat} {y6 : Nat} {y7 : Nat} {fi : Nat → Option Nat} {k0 : Int32} {k1 : Int32} {k2 : Int32} (hfi : fi 0 = some y0 ∧ fi 1 = some y1 ∧ fi 2 = some y2 ∧ fi 3 = some y3 ∧ fi 4 = some y4 ∧ fi 5 = some y5 ∧ fi 6 = some y6 ∧ fi 7 = some y7) (hfe : ∀ jq : Nat, jq < 8 → ∃ q : Nat, q ≤ 40 ∧ fe jq = nI q) (f_1_0_0 : (k0 < 0 ∨ 8 ≤ k0)) : abn fl fe = sr_n (abn fl fe) k0 k1 k2 := by
  first
  | (subst_vars; with_reducible exact (an_row_ok (by assumption) (by assumption) (by omega)).symm)
  | (subst_vars; with_reducible exact (an_row_neg (by assumption) (by assumption) (by assumption) (by assumption)).symm)
  | (unfold an_row; rw [if_pos (by grind)])
  | (unfold an_row; grind)
  | (unfold sr_l; rw [if_neg (by grind)])
  | (unfold sr_n; rw [if_neg (by grind)])
  | (subst_vars; rw [sr_l_ok (by assumption) (by assumption) (by omega)]; with_reducible exact abl_up (by omega))
  | (subst_vars; rw [sr_n_ok (by assumption) (by assumption) (by omega)]; with_reducible exact abn_up (by omega) (by assumption))
theorem lf_X7_row_3 {fe : Nat → Int32} {y0 : Nat} {y1 : Nat} {y2 : Nat} {y3 : Nat} {y4 : Nat} {y5 : Nat} {y6 : Nat} {y7 : Nat} {fi : Nat → Option Nat} {k0 : Int32} {k1 : Int32} {k2 : Int32} (hfi : fi 0 = some y0 ∧ fi 1 = some y1 ∧ fi 2 = some y2 ∧ fi 3 = some y3 ∧ fi 4 = some y4 ∧ fi 5 = some y5 ∧ fi 6 = some y6 ∧ fi 7 = some y7) (hfe : ∀ jq : Nat, jq < 8 → ∃ q : Nat, q ≤ 40 ∧ fe jq = nI q) (f_1_0_0 : (k0 < 0 ∨ 8 ≤ k0)) : (-1000001) = (an_row k0 k1 k2) := by
  first
  | (subst_vars; with_reducible exact (an_row_ok (by assumption) (by assumption) (by omega)).symm)
  | (subst_vars; with_reducible exact (an_row_neg (by assumption) (by assumption) (by assumption) (by assumption)).symm)
  | (unfold an_row; rw [if_pos (by grind)])
  | (unfold an_row; grind)
  | (unfold sr_l; rw [if_neg (by grind)])
  | (unfold sr_n; rw [if_neg (by grind)])
  | (subst_vars; rw [sr_l_ok (by assumption) (by assumption) (by omega)]; with_reducible exact abl_up (by omega))
  | (subst_vars; rw [sr_n_ok (by assumption) (by assumption) (by omega)]; with_reducible exact abn_up (by omega) (by assumption))
theorem lf_X7_row_4 {fl : Nat → Int32} {fe : Nat → Int32} {y0 : Nat} {y1 : Nat} {y2 : Nat} {y3 : Nat} {y4 : Nat} {y5 : Nat} {y6 : Nat} {y7 : Nat} {fi : Nat → Option Nat} {k1 : Int32} {k2 : Int32} {j_1 : Nat} (hfi : fi 0 = some y0 ∧ fi 1 = some y1 ∧ fi 2 = some y2 ∧ fi 3 = some y3 ∧ fi 4 = some y4 ∧ fi 5 = some y5 ∧ fi 6 = some y6 ∧ fi 7 = some y7) (hfe : ∀ jq : Nat, jq < 8 → ∃ q : Nat, q ≤ 40 ∧ fe jq = nI q) (hj_1 : j_1 < 8) (f_5_0_0 : (k1 < 0 ∨ 2 < k1)) : abl fl = sr_l (abl fl) (nI j_1) k1 k2 := by
  first
  | (subst_vars; with_reducible exact (an_row_ok (by assumption) (by assumption) (by omega)).symm)
  | (subst_vars; with_reducible exact (an_row_neg (by assumption) (by assumption) (by assumption) (by assumption)).symm)
  | (unfold an_row; rw [if_pos (by grind)])
  | (unfold an_row; grind)
  | (unfold sr_l; rw [if_neg (by grind)])
  | (unfold sr_n; rw [if_neg (by grind)])
  | (subst_vars; rw [sr_l_ok (by assumption) (by assumption) (by omega)]; with_reducible exact abl_up (by omega))
  | (subst_vars; rw [sr_n_ok (by assumption) (by assumption) (by omega)]; with_reducible exact abn_up (by omega) (by assumption))
theorem lf_X7_row_5 {fl : Nat → Int32} {fe : Nat → Int32} {y0 : Nat} {y1 : Nat} {y2 : Nat} {y3 : Nat} {y4 : Nat} {y5 : Nat} {y6 : Nat} {y7 : Nat} {fi : Nat → Option Nat} {k1 : Int32} {k2 : Int32} {j_1 : Nat} (hfi : fi 0 = some y0 ∧ fi 1 = some y1 ∧ fi 2 = some y2 ∧ fi 3 = some y3 ∧ fi 4 = some y4 ∧ fi 5 = some y5 ∧ fi 6 = some y6 ∧ fi 7 = some y7) (hfe : ∀ jq : Nat, jq < 8 → ∃ q : Nat, q ≤ 40 ∧ fe jq = nI q) (hj_1 : j_1 < 8) (f_5_0_0 : (k1 < 0 ∨ 2 < k1)) : abn fl fe = sr_n (abn fl fe) (nI j_1) k1 k2 := by
  first
  | (subst_vars; with_reducible exact (an_row_ok (by assumption) (by assumption) (by omega)).symm)
  | (subst_vars; with_reducible exact (an_row_neg (by assumption) (by assumption) (by assumption) (by assumption)).symm)
  | (unfold an_row; rw [if_pos (by grind)])
  | (unfold an_row; grind)
  | (unfold sr_l; rw [if_neg (by grind)])
  | (unfold sr_n; rw [if_neg (by grind)])
  | (subst_vars; rw [sr_l_ok (by assumption) (by assumption) (by omega)]; with_reducible exact abl_up (by omega))
  | (subst_vars; rw [sr_n_ok (by assumption) (by assumption) (by omega)]; with_reducible exact abn_up (by omega) (by assumption))
theorem lf_X7_row_6 {fe : Nat → Int32} {y0 : Nat} {y1 : Nat} {y2 : Nat} {y3 : Nat} {y4 : Nat} {y5 : Nat} {y6 : Nat} {y7 : Nat} {fi : Nat → Option Nat} {k1 : Int32} {k2 : Int32} {j_1 : Nat} (hfi : fi 0 = some y0 ∧ fi 1 = some y1 ∧ fi 2 = some y2 ∧ fi 3 = some y3 ∧ fi 4 = some y4 ∧ fi 5 = some y5 ∧ fi 6 = some y6 ∧ fi 7 = some y7) (hfe : ∀ jq : Nat, jq < 8 → ∃ q : Nat, q ≤ 40 ∧ fe jq = nI q) (hj_1 : j_1 < 8) (f_5_0_0 : (k1 < 0 ∨ 2 < k1)) : (-1000001) = (an_row (nI j_1) k1 k2) := by
  first
  | (subst_vars; with_reducible exact (an_row_ok (by assumption) (by assumption) (by omega)).symm)
  | (subst_vars; with_reducible exact (an_row_neg (by assumption) (by assumption) (by assumption) (by assumption)).symm)
  | (unfold an_row; rw [if_pos (by grind)])
  | (unfold an_row; grind)
  | (unfold sr_l; rw [if_neg (by grind)])
  | (unfold sr_n; rw [if_neg (by grind)])
  | (subst_vars; rw [sr_l_ok (by assumption) (by assumption) (by omega)]; with_reducible exact abl_up (by omega))
  | (subst_vars; rw [sr_n_ok (by assumption) (by assumption) (by omega)]; with_reducible exact abn_up (by omega) (by assumption))
theorem lf_X7_row_7 {fl : Nat → Int32} {fe : Nat → Int32} {y0 : Nat} {y1 : Nat} {y2 : Nat} {y3 : Nat} {y4 : Nat} {y5 : Nat} {y6 : Nat} {y7 : Nat} {fi : Nat → Option Nat} {k1 : Int32} {j_1 : Nat} {j_10 : Nat} {fln_11 : Nat → Int32} {fen_11 : Nat → Int32} {xgn_12 : Int32} {r_12 : Int32} (hfi : fi 0 = some y0 ∧ fi 1 = some y1 ∧ fi 2 = some y2 ∧ fi 3 = some y3 ∧ fi 4 = some y4 ∧ fi 5 = some y5 ∧ fi 6 = some y6 ∧ fi 7 = some y7) (hfe : ∀ jq : Nat, jq < 8 → ∃ q : Nat, q ≤ 40 ∧ fe jq = nI q) (hj_1 : j_1 < 8) (f_5_1_0 : (¬ (k1 < 0 ∨ 2 < k1))) (c_8 : (nI j_10) ≤ 40) (c_9 : 0 ≤ (nI j_10)) (hj_10 : j_10 ≤ 40) (hF_11_0 : (∀ jq : Nat, jq < 8 → ∃ q : Nat, q ≤ 40 ∧ fen_11 jq = nI q)) (hF_11_1 : fln_11 = upd fl j_1 k1) (hF_11_2 : fen_11 = upd fe j_1 (nI j_10)) (hF_12_0 : (xgn_12 : Int32) = 0) (h_12 : r_12 = (nI j_10)) : abl fln_11 = sr_l (abl fl) (nI j_1) k1 (nI j_10) := by
  first
  | (subst_vars; with_reducible exact (an_row_ok (by assumption) (by assumption) (by omega)).symm)
  | (subst_vars; with_reducible exact (an_row_neg (by assumption) (by assumption) (by assumption) (by assumption)).symm)
  | (unfold an_row; rw [if_pos (by grind)])
  | (unfold an_row; grind)
  | (unfold sr_l; rw [if_neg (by grind)])
  | (unfold sr_n; rw [if_neg (by grind)])
  | (subst_vars; rw [sr_l_ok (by assumption) (by assumption) (by omega)]; with_reducible exact abl_up (by omega))
  | (subst_vars; rw [sr_n_ok (by assumption) (by assumption) (by omega)]; with_reducible exact abn_up (by omega) (by assumption))
theorem lf_X7_row_8 {fl : Nat → Int32} {fe : Nat → Int32} {y0 : Nat} {y1 : Nat} {y2 : Nat} {y3 : Nat} {y4 : Nat} {y5 : Nat} {y6 : Nat} {y7 : Nat} {fi : Nat → Option Nat} {k1 : Int32} {j_1 : Nat} {j_10 : Nat} {fln_11 : Nat → Int32} {fen_11 : Nat → Int32} {xgn_12 : Int32} {r_12 : Int32} (hfi : fi 0 = some y0 ∧ fi 1 = some y1 ∧ fi 2 = some y2 ∧ fi 3 = some y3 ∧ fi 4 = some y4 ∧ fi 5 = some y5 ∧ fi 6 = some y6 ∧ fi 7 = some y7) (hfe : ∀ jq : Nat, jq < 8 → ∃ q : Nat, q ≤ 40 ∧ fe jq = nI q) (hj_1 : j_1 < 8) (f_5_1_0 : (¬ (k1 < 0 ∨ 2 < k1))) (c_8 : (nI j_10) ≤ 40) (c_9 : 0 ≤ (nI j_10)) (hj_10 : j_10 ≤ 40) (hF_11_0 : (∀ jq : Nat, jq < 8 → ∃ q : Nat, q ≤ 40 ∧ fen_11 jq = nI q)) (hF_11_1 : fln_11 = upd fl j_1 k1) (hF_11_2 : fen_11 = upd fe j_1 (nI j_10)) (hF_12_0 : (xgn_12 : Int32) = 0) (h_12 : r_12 = (nI j_10)) : abn fln_11 fen_11 = sr_n (abn fl fe) (nI j_1) k1 (nI j_10) := by
  first
  | (subst_vars; with_reducible exact (an_row_ok (by assumption) (by assumption) (by omega)).symm)
  | (subst_vars; with_reducible exact (an_row_neg (by assumption) (by assumption) (by assumption) (by assumption)).symm)
  | (unfold an_row; rw [if_pos (by grind)])
  | (unfold an_row; grind)
  | (unfold sr_l; rw [if_neg (by grind)])
  | (unfold sr_n; rw [if_neg (by grind)])
  | (subst_vars; rw [sr_l_ok (by assumption) (by assumption) (by omega)]; with_reducible exact abl_up (by omega))
  | (subst_vars; rw [sr_n_ok (by assumption) (by assumption) (by omega)]; with_reducible exact abn_up (by omega) (by assumption))
theorem lf_X7_row_9 {fl : Nat → Int32} {fe : Nat → Int32} {y0 : Nat} {y1 : Nat} {y2 : Nat} {y3 : Nat} {y4 : Nat} {y5 : Nat} {y6 : Nat} {y7 : Nat} {fi : Nat → Option Nat} {k1 : Int32} {j_1 : Nat} {j_10 : Nat} {fln_11 : Nat → Int32} {fen_11 : Nat → Int32} {xgn_12 : Int32} {r_12 : Int32} (hfi : fi 0 = some y0 ∧ fi 1 = some y1 ∧ fi 2 = some y2 ∧ fi 3 = some y3 ∧ fi 4 = some y4 ∧ fi 5 = some y5 ∧ fi 6 = some y6 ∧ fi 7 = some y7) (hfe : ∀ jq : Nat, jq < 8 → ∃ q : Nat, q ≤ 40 ∧ fe jq = nI q) (hj_1 : j_1 < 8) (f_5_1_0 : (¬ (k1 < 0 ∨ 2 < k1))) (c_8 : (nI j_10) ≤ 40) (c_9 : 0 ≤ (nI j_10)) (hj_10 : j_10 ≤ 40) (hF_11_0 : (∀ jq : Nat, jq < 8 → ∃ q : Nat, q ≤ 40 ∧ fen_11 jq = nI q)) (hF_11_1 : fln_11 = upd fl j_1 k1) (hF_11_2 : fen_11 = upd fe j_1 (nI j_10)) (hF_12_0 : (xgn_12 : Int32) = 0) (h_12 : r_12 = (nI j_10)) : r_12 = (an_row (nI j_1) k1 (nI j_10)) := by
  first
  | (subst_vars; with_reducible exact (an_row_ok (by assumption) (by assumption) (by omega)).symm)
  | (subst_vars; with_reducible exact (an_row_neg (by assumption) (by assumption) (by assumption) (by assumption)).symm)
  | (unfold an_row; rw [if_pos (by grind)])
  | (unfold an_row; grind)
  | (unfold sr_l; rw [if_neg (by grind)])
  | (unfold sr_n; rw [if_neg (by grind)])
  | (subst_vars; rw [sr_l_ok (by assumption) (by assumption) (by omega)]; with_reducible exact abl_up (by omega))
  | (subst_vars; rw [sr_n_ok (by assumption) (by assumption) (by omega)]; with_reducible exact abn_up (by omega) (by assumption))
theorem lf_X7_row_10 {fl : Nat → Int32} {fe : Nat → Int32} {y0 : Nat} {y1 : Nat} {y2 : Nat} {y3 : Nat} {y4 : Nat} {y5 : Nat} {y6 : Nat} {y7 : Nat} {fi : Nat → Option Nat} {k1 : Int32} {k2 : Int32} {j_1 : Nat} {xgn_13 : Int32} {r_13 : Int32} (hfi : fi 0 = some y0 ∧ fi 1 = some y1 ∧ fi 2 = some y2 ∧ fi 3 = some y3 ∧ fi 4 = some y4 ∧ fi 5 = some y5 ∧ fi 6 = some y6 ∧ fi 7 = some y7) (hfe : ∀ jq : Nat, jq < 8 → ∃ q : Nat, q ≤ 40 ∧ fe jq = nI q) (hj_1 : j_1 < 8) (f_5_1_0 : (¬ (k1 < 0 ∨ 2 < k1))) (c_8 : k2 ≤ 40) (c_9 : ¬ (0 ≤ k2)) (hF_13_0 : (xgn_13 : Int32) = 4) (h_13 : r_13 = (-1000010 - 4)) : abl fl = sr_l (abl fl) (nI j_1) k1 k2 := by
  first
  | (subst_vars; with_reducible exact (an_row_ok (by assumption) (by assumption) (by omega)).symm)
  | (subst_vars; with_reducible exact (an_row_neg (by assumption) (by assumption) (by assumption) (by assumption)).symm)
  | (unfold an_row; rw [if_pos (by grind)])
  | (unfold an_row; grind)
  | (unfold sr_l; rw [if_neg (by grind)])
  | (unfold sr_n; rw [if_neg (by grind)])
  | (subst_vars; rw [sr_l_ok (by assumption) (by assumption) (by omega)]; with_reducible exact abl_up (by omega))
  | (subst_vars; rw [sr_n_ok (by assumption) (by assumption) (by omega)]; with_reducible exact abn_up (by omega) (by assumption))
theorem lf_X7_row_11 {fl : Nat → Int32} {fe : Nat → Int32} {y0 : Nat} {y1 : Nat} {y2 : Nat} {y3 : Nat} {y4 : Nat} {y5 : Nat} {y6 : Nat} {y7 : Nat} {fi : Nat → Option Nat} {k1 : Int32} {k2 : Int32} {j_1 : Nat} {xgn_13 : Int32} {r_13 : Int32} (hfi : fi 0 = some y0 ∧ fi 1 = some y1 ∧ fi 2 = some y2 ∧ fi 3 = some y3 ∧ fi 4 = some y4 ∧ fi 5 = some y5 ∧ fi 6 = some y6 ∧ fi 7 = some y7) (hfe : ∀ jq : Nat, jq < 8 → ∃ q : Nat, q ≤ 40 ∧ fe jq = nI q) (hj_1 : j_1 < 8) (f_5_1_0 : (¬ (k1 < 0 ∨ 2 < k1))) (c_8 : k2 ≤ 40) (c_9 : ¬ (0 ≤ k2)) (hF_13_0 : (xgn_13 : Int32) = 4) (h_13 : r_13 = (-1000010 - 4)) : abn fl fe = sr_n (abn fl fe) (nI j_1) k1 k2 := by
  first
  | (subst_vars; with_reducible exact (an_row_ok (by assumption) (by assumption) (by omega)).symm)
  | (subst_vars; with_reducible exact (an_row_neg (by assumption) (by assumption) (by assumption) (by assumption)).symm)
  | (unfold an_row; rw [if_pos (by grind)])
  | (unfold an_row; grind)
  | (unfold sr_l; rw [if_neg (by grind)])
  | (unfold sr_n; rw [if_neg (by grind)])
  | (subst_vars; rw [sr_l_ok (by assumption) (by assumption) (by omega)]; with_reducible exact abl_up (by omega))
  | (subst_vars; rw [sr_n_ok (by assumption) (by assumption) (by omega)]; with_reducible exact abn_up (by omega) (by assumption))
theorem lf_X7_row_12 {fe : Nat → Int32} {y0 : Nat} {y1 : Nat} {y2 : Nat} {y3 : Nat} {y4 : Nat} {y5 : Nat} {y6 : Nat} {y7 : Nat} {fi : Nat → Option Nat} {k1 : Int32} {k2 : Int32} {j_1 : Nat} {xgn_13 : Int32} {r_13 : Int32} (hfi : fi 0 = some y0 ∧ fi 1 = some y1 ∧ fi 2 = some y2 ∧ fi 3 = some y3 ∧ fi 4 = some y4 ∧ fi 5 = some y5 ∧ fi 6 = some y6 ∧ fi 7 = some y7) (hfe : ∀ jq : Nat, jq < 8 → ∃ q : Nat, q ≤ 40 ∧ fe jq = nI q) (hj_1 : j_1 < 8) (f_5_1_0 : (¬ (k1 < 0 ∨ 2 < k1))) (c_8 : k2 ≤ 40) (c_9 : ¬ (0 ≤ k2)) (hF_13_0 : (xgn_13 : Int32) = 4) (h_13 : r_13 = (-1000010 - 4)) : r_13 = (an_row (nI j_1) k1 k2) := by
  first
  | (subst_vars; with_reducible exact (an_row_ok (by assumption) (by assumption) (by omega)).symm)
  | (subst_vars; with_reducible exact (an_row_neg (by assumption) (by assumption) (by assumption) (by assumption)).symm)
  | (unfold an_row; rw [if_pos (by grind)])
  | (unfold an_row; grind)
  | (unfold sr_l; rw [if_neg (by grind)])
  | (unfold sr_n; rw [if_neg (by grind)])
  | (subst_vars; rw [sr_l_ok (by assumption) (by assumption) (by omega)]; with_reducible exact abl_up (by omega))
  | (subst_vars; rw [sr_n_ok (by assumption) (by assumption) (by omega)]; with_reducible exact abn_up (by omega) (by assumption))
theorem lf_X7_row_13 {fl : Nat → Int32} {fe : Nat → Int32} {y0 : Nat} {y1 : Nat} {y2 : Nat} {y3 : Nat} {y4 : Nat} {y5 : Nat} {y6 : Nat} {y7 : Nat} {fi : Nat → Option Nat} {k1 : Int32} {k2 : Int32} {j_1 : Nat} (hfi : fi 0 = some y0 ∧ fi 1 = some y1 ∧ fi 2 = some y2 ∧ fi 3 = some y3 ∧ fi 4 = some y4 ∧ fi 5 = some y5 ∧ fi 6 = some y6 ∧ fi 7 = some y7) (hfe : ∀ jq : Nat, jq < 8 → ∃ q : Nat, q ≤ 40 ∧ fe jq = nI q) (hj_1 : j_1 < 8) (f_5_1_0 : (¬ (k1 < 0 ∨ 2 < k1))) (c_8 : ¬ (k2 ≤ 40)) : abl fl = sr_l (abl fl) (nI j_1) k1 k2 := by
  first
  | (subst_vars; with_reducible exact (an_row_ok (by assumption) (by assumption) (by omega)).symm)
  | (subst_vars; with_reducible exact (an_row_neg (by assumption) (by assumption) (by assumption) (by assumption)).symm)
  | (unfold an_row; rw [if_pos (by grind)])
  | (unfold an_row; grind)
  | (unfold sr_l; rw [if_neg (by grind)])
  | (unfold sr_n; rw [if_neg (by grind)])
  | (subst_vars; rw [sr_l_ok (by assumption) (by assumption) (by omega)]; with_reducible exact abl_up (by omega))
  | (subst_vars; rw [sr_n_ok (by assumption) (by assumption) (by omega)]; with_reducible exact abn_up (by omega) (by assumption))
theorem lf_X7_row_14 {fl : Nat → Int32} {fe : Nat → Int32} {y0 : Nat} {y1 : Nat} {y2 : Nat} {y3 : Nat} {y4 : Nat} {y5 : Nat} {y6 : Nat} {y7 : Nat} {fi : Nat → Option Nat} {k1 : Int32} {k2 : Int32} {j_1 : Nat} (hfi : fi 0 = some y0 ∧ fi 1 = some y1 ∧ fi 2 = some y2 ∧ fi 3 = some y3 ∧ fi 4 = some y4 ∧ fi 5 = some y5 ∧ fi 6 = some y6 ∧ fi 7 = some y7) (hfe : ∀ jq : Nat, jq < 8 → ∃ q : Nat, q ≤ 40 ∧ fe jq = nI q) (hj_1 : j_1 < 8) (f_5_1_0 : (¬ (k1 < 0 ∨ 2 < k1))) (c_8 : ¬ (k2 ≤ 40)) : abn fl fe = sr_n (abn fl fe) (nI j_1) k1 k2 := by
  first
  | (subst_vars; with_reducible exact (an_row_ok (by assumption) (by assumption) (by omega)).symm)
  | (subst_vars; with_reducible exact (an_row_neg (by assumption) (by assumption) (by assumption) (by assumption)).symm)
  | (unfold an_row; rw [if_pos (by grind)])
  | (unfold an_row; grind)
  | (unfold sr_l; rw [if_neg (by grind)])
  | (unfold sr_n; rw [if_neg (by grind)])
  | (subst_vars; rw [sr_l_ok (by assumption) (by assumption) (by omega)]; with_reducible exact abl_up (by omega))
  | (subst_vars; rw [sr_n_ok (by assumption) (by assumption) (by omega)]; with_reducible exact abn_up (by omega) (by assumption))
theorem lf_X7_row_15 {fe : Nat → Int32} {y0 : Nat} {y1 : Nat} {y2 : Nat} {y3 : Nat} {y4 : Nat} {y5 : Nat} {y6 : Nat} {y7 : Nat} {fi : Nat → Option Nat} {k1 : Int32} {k2 : Int32} {j_1 : Nat} (hfi : fi 0 = some y0 ∧ fi 1 = some y1 ∧ fi 2 = some y2 ∧ fi 3 = some y3 ∧ fi 4 = some y4 ∧ fi 5 = some y5 ∧ fi 6 = some y6 ∧ fi 7 = some y7) (hfe : ∀ jq : Nat, jq < 8 → ∃ q : Nat, q ≤ 40 ∧ fe jq = nI q) (hj_1 : j_1 < 8) (f_5_1_0 : (¬ (k1 < 0 ∨ 2 < k1))) (c_8 : ¬ (k2 ≤ 40)) : (-1000001) = (an_row (nI j_1) k1 k2) := by
  first
  | (subst_vars; with_reducible exact (an_row_ok (by assumption) (by assumption) (by omega)).symm)
  | (subst_vars; with_reducible exact (an_row_neg (by assumption) (by assumption) (by assumption) (by assumption)).symm)
  | (unfold an_row; rw [if_pos (by grind)])
  | (unfold an_row; grind)
  | (unfold sr_l; rw [if_neg (by grind)])
  | (unfold sr_n; rw [if_neg (by grind)])
  | (subst_vars; rw [sr_l_ok (by assumption) (by assumption) (by omega)]; with_reducible exact abl_up (by omega))
  | (subst_vars; rw [sr_n_ok (by assumption) (by assumption) (by omega)]; with_reducible exact abn_up (by omega) (by assumption))
set_option maxHeartbeats 4000000 in
set_option maxRecDepth 100000 in
theorem r_X7_row (l : Launch) (dC : Nat → ClassId) (dI : Nat → Nat → Nat) (cI cZ cL cJ : ClassId) (sz : Nat) (x : Nat) (ro : Nat) (ta : Nat) (no : Nat) (ac : Nat) (im : Nat) (tr : Nat) (pl : Nat) (cs : Nat) (ak : Nat) (xf : Int32) (xg : Int32) (it : Nat) (la : Nat) (le : Nat) (fl : Nat → Int32) (fe : Nat → Int32) (y0 : Nat) (y1 : Nat) (y2 : Nat) (y3 : Nat) (y4 : Nat) (y5 : Nat) (y6 : Nat) (y7 : Nat) (f0 : Nat → Int32) (f1 : Nat → Int32) (f2 : Nat → Int32) (f3 : Nat → Int32) (f4 : Nat → Int32) (f5 : Nat → Int32) (f6 : Nat → Int32) (f7 : Nat → Int32) (fi : Nat → Option Nat) (k0 : Int32) (k1 : Int32) (k2 : Int32) (hfi : fi 0 = some y0 ∧ fi 1 = some y1 ∧ fi 2 = some y2 ∧ fi 3 = some y3 ∧ fi 4 = some y4 ∧ fi 5 = some y5 ∧ fi 6 = some y6 ∧ fi 7 = some y7) (hfe : ∀ jq : Nat, jq < 8 → ∃ q : Nat, q ≤ 40 ∧ fe jq = nI q) : Met l yX7_row wsX7_row ({ frames := 2, cells := 0, slots := 0, locals := 46 }) (va_Pc [.ref x, .int k0, .int k1, .int k2] (fun U => U.heap.size = sz ∧ va_P (dC, dI) vwCl [(xo_7_rrrrrrrrrii x ro ta no ac im tr pl cs ak xf xg), (xo_5_rrr ro it la le), (xI la cI 8 fl), (xI le cI 8 fe), (xJ it cJ 8 fi), (xI y0 cI 40 f0), (xI y1 cI 40 f1), (xI y2 cI 40 f2), (xI y3 cI 40 f3), (xI y4 cI 40 f4), (xI y5 cI 40 f5), (xI y6 cI 40 f6), (xI y7 cI 40 f7)] U.heap ∧ va_K (dC, dI) vwCl [(cI, .int), (cZ, .boolean), (cL, .object RX3), (cJ, .array .int)] U ∧ va_D (fun _ => True) [(xo_7_rrrrrrrrrii x ro ta no ac im tr pl cs ak xf xg), (xo_5_rrr ro it la le), (xI la cI 8 fl), (xI le cI 8 fe), (xJ it cJ 8 fi), (xI y0 cI 40 f0), (xI y1 cI 40 f1), (xI y2 cI 40 f2), (xI y3 cI 40 f3), (xI y4 cI 40 f4), (xI y5 cI 40 f5), (xI y6 cI 40 f6), (xI y7 cI 40 f7)])) (va_Qi (fun r (_ : Unit) => r = (an_row k0 k1 k2)) (fun (_ : Unit) t => ∃ (fln : Nat → Int32) (fen : Nat → Int32) (f0n : Nat → Int32) (f1n : Nat → Int32) (f2n : Nat → Int32) (f3n : Nat → Int32) (f4n : Nat → Int32) (f5n : Nat → Int32) (f6n : Nat → Int32) (f7n : Nat → Int32) (xgn : Int32), va_P (dC, dI) vwCl [(xo_7_rrrrrrrrrii x ro ta no ac im tr pl cs ak xf xgn), (xo_5_rrr ro it la le), (xI la cI 8 fln), (xI le cI 8 fen), (xJ it cJ 8 fi), (xI y0 cI 40 f0n), (xI y1 cI 40 f1n), (xI y2 cI 40 f2n), (xI y3 cI 40 f3n), (xI y4 cI 40 f4n), (xI y5 cI 40 f5n), (xI y6 cI 40 f6n), (xI y7 cI 40 f7n)] t.heap ∧ va_D (va_A [(xo_7_rrrrrrrrrii x ro ta no ac im tr pl cs ak xf xg), (xo_5_rrr ro it la le), (xI la cI 8 fl), (xI le cI 8 fe), (xJ it cJ 8 fi), (xI y0 cI 40 f0), (xI y1 cI 40 f1), (xI y2 cI 40 f2), (xI y3 cI 40 f3), (xI y4 cI 40 f4), (xI y5 cI 40 f5), (xI y6 cI 40 f6), (xI y7 cI 40 f7)] sz) [(xo_7_rrrrrrrrrii x ro ta no ac im tr pl cs ak xf xgn), (xo_5_rrr ro it la le), (xI la cI 8 fln), (xI le cI 8 fen), (xJ it cJ 8 fi), (xI y0 cI 40 f0n), (xI y1 cI 40 f1n), (xI y2 cI 40 f2n), (xI y3 cI 40 f3n), (xI y4 cI 40 f4n), (xI y5 cI 40 f5n), (xI y6 cI 40 f6n), (xI y7 cI 40 f7n)] ∧ (∀ jq : Nat, jq < 8 → ∃ q : Nat, q ≤ 40 ∧ fen jq = nI q) ∧ abl fln = sr_l (abl fl) k0 k1 k2 ∧ abn fln fen = sr_n (abn fl fe) k0 k1 k2) (va_A [(xo_7_rrrrrrrrrii x ro ta no ac im tr pl cs ak xf xg), (xo_5_rrr ro it la le), (xI la cI 8 fl), (xI le cI 8 fe), (xJ it cJ 8 fi), (xI y0 cI 40 f0), (xI y1 cI 40 f1), (xI y2 cI 40 f2), (xI y3 cI 40 f3), (xI y4 cI 40 f4), (xI y5 cI 40 f5), (xI y6 cI 40 f6), (xI y7 cI 40 f7)] sz)) 0 0 (va_A [(xo_7_rrrrrrrrrii x ro ta no ac im tr pl cs ak xf xg), (xo_5_rrr ro it la le), (xI la cI 8 fl), (xI le cI 8 fe), (xJ it cJ 8 fi), (xI y0 cI 40 f0), (xI y1 cI 40 f1), (xI y2 cI 40 f2), (xI y3 cI 40 f3), (xI y4 cI 40 f4), (xI y5 cI 40 f5), (xI y6 cI 40 f6), (xI y7 cI 40 f7)] sz) := by
  refine Met.ofW (cc := cX7_row) (maxL := 4) (ret := (some .int)) (by decide) rfl ?_
  intro p e s m args below meth c s₁ B hml hv
  obtain ⟨rfl, hsz, hP, hK, hD0⟩ := hv
  have hx := B.exec
  have hb := B.bytes
  have hr := B.returns
  have hts := atoms_spec (ws := wsX7_row) B.pre
  have hown : s.vm.findClass RX7 = some m.cls := findClass_of_methodNamed B.named
  have hlocks := B.notSynchronized
  subst hsz
  have hD := hD0.self (sz := s.heap.size)
  generalize hAe : va_A [(xo_7_rrrrrrrrrii x ro ta no ac im tr pl cs ak xf xg), (xo_5_rrr ro it la le), (xI la cI 8 fl), (xI le cI 8 fe), (xJ it cJ 8 fi), (xI y0 cI 40 f0), (xI y1 cI 40 f1), (xI y2 cI 40 f2), (xI y3 cI 40 f3), (xI y4 cI 40 f4), (xI y5 cI 40 f5), (xI y6 cI 40 f6), (xI y7 cI 40 f7)] s.heap.size = A at hD ⊢
  have hA : ∀ q : Nat, s.heap.size ≤ q → A q := fun q h => by rw [← hAe]; exact Or.inr h
  have hS : va_S A s.heap s.heap [] := va_S.rf
  have hP : va_P (dC, dI) vwCl [(xo_7_rrrrrrrrrii x ro ta no ac im tr pl cs ak xf xg), (xo_5_rrr ro it la le), (xI la cI 8 fl), (xI le cI 8 fe), (xJ it cJ 8 fi), (xI y0 cI 40 f0), (xI y1 cI 40 f1), (xI y2 cI 40 f2), (xI y3 cI 40 f3), (xI y4 cI 40 f4), (xI y5 cI 40 f5), (xI y6 cI 40 f6), (xI y7 cI 40 f7)] s.heap := hP
  have hl := lv_entry ([.ref x, .int k0, .int k1, .int k2]) (n := 4) (Nat.le_of_ble_eq_true rfl)
  rw [lg_entry_eq]
  generalize (lg_sl ([.ref x, .int k0, .int k1, .int k2]) ++ List.replicate (4 - (lg_sl ([.ref x, .int k0, .int k1, .int k2])).length) Slot.unset).toArray = ls at hl ⊢
  have hl : lv_has ls 4 [(0, .ref x), (1, .int k0), (2, .int k1), (3, .int k2)] := hl
  refine lv_iload_n hx hb dX7_row_0 rfl (lv_at hl 1 rfl) ?_
  have hPc_1 := hP.sub (ws' := []) [] rfl
  refine vp_callSi (W.runS (As := [.int k0]) (rest := []) ⟨hx, hb, hml, hown, hts⟩ (r_X5_isRow l dC dI cI cZ cL cJ k0 ) (va_cwS 1 hts gX7_row_X5_isRow rfl rfl rfl (by decide +kernel) ⟨Nat.le_of_ble_eq_true rfl, Nat.le_of_ble_eq_true rfl⟩) (psP hK hPc_1) rfl rfl hl.1 rfl (lv_room (Nat.le_of_ble_eq_true rfl)) dX7_row_1 ⟨Nat.le_of_ble_eq_true rfl, Nat.le_of_ble_eq_true rfl⟩) (fun r_1 h_1 => ?_)
  rcases h_1 with ⟨h_1, f_1_0_0⟩ | ⟨h_1, f_1_1_0⟩
  · subst h_1
    refine lv_if_eq (tgt := 20) hx hb dX7_row_4 (by decide) (fun _ => ?_) (fun c_ => absurd (by decide) c_)
    refine lv_ldc (own := RX7) (v := (-1000001)) hx hb hown (hts _ mx_X7_row_1) dX7_row_20 ?_
    have hX9 := cut2 (wc := [(xo_7_rrrrrrrrrii x ro ta no ac im tr pl cs ak xf xg), (xo_5_rrr ro it la le), (xI la cI 8 fl), (xI le cI 8 fe), (xJ it cJ 8 fi), (xI y0 cI 40 f0), (xI y1 cI 40 f1), (xI y2 cI 40 f2), (xI y3 cI 40 f3), (xI y4 cI 40 f4), (xI y5 cI 40 f5), (xI y6 cI 40 f6), (xI y7 cI 40 f7)]) hP hD [0, 1, 2, 3, 4, 5, 6, 7, 8, 9, 10, 11, 12] (by decide +kernel) rfl
    exact W.iret (v := (-1000001)) hx hb hr (fun t ht hW => ⟨⟨(-1000001), (), rfl, (lf_X7_row_3 hfi hfe f_1_0_0), ⟨fl, fe, f0, f1, f2, f3, f4, f5, f6, f7, xg, va_Ht ht hX9.1, hX9.2, hfe, (lf_X7_row_1 hfi hfe f_1_0_0), (lf_X7_row_2 hfi hfe f_1_0_0)⟩⟩, hS.F ht⟩) hS.2.2 dX7_row_22
  · subst h_1
    obtain ⟨j_1, hj_1, rfl⟩ := vp_in_of f_1_1_0 (by omega)
    refine lv_if_eq (tgt := 20) hx hb dX7_row_4 (by decide) (fun c_ => absurd c_ (by decide)) (fun _ => ?_)
    refine lv_iload_n hx hb dX7_row_7 rfl (lv_at hl 2 rfl) ?_
    have hPc_5 := hP.sub (ws' := []) [] rfl
    refine vp_callSi (W.runS (As := [.int k1]) (rest := []) ⟨hx, hb, hml, hown, hts⟩ (r_X5_isLane l dC dI cI cZ cL cJ k1 ) (va_cwS 1 hts gX7_row_X5_isLane rfl rfl rfl (by decide +kernel) ⟨Nat.le_of_ble_eq_true rfl, Nat.le_of_ble_eq_true rfl⟩) (psP hK hPc_5) rfl rfl hl.1 rfl (lv_room (Nat.le_of_ble_eq_true rfl)) dX7_row_8 ⟨Nat.le_of_ble_eq_true rfl, Nat.le_of_ble_eq_true rfl⟩) (fun r_5 h_5 => ?_)
    rcases h_5 with ⟨h_5, f_5_0_0⟩ | ⟨h_5, f_5_1_0⟩
    · subst h_5
      refine lv_if_eq (tgt := 20) hx hb dX7_row_11 (by decide) (fun _ => ?_) (fun c_ => absurd (by decide) c_)
      refine lv_ldc (own := RX7) (v := (-1000001)) hx hb hown (hts _ mx_X7_row_1) dX7_row_20 ?_
      have hX9 := cut2 (wc := [(xo_7_rrrrrrrrrii x ro ta no ac im tr pl cs ak xf xg), (xo_5_rrr ro it la le), (xI la cI 8 fl), (xI le cI 8 fe), (xJ it cJ 8 fi), (xI y0 cI 40 f0), (xI y1 cI 40 f1), (xI y2 cI 40 f2), (xI y3 cI 40 f3), (xI y4 cI 40 f4), (xI y5 cI 40 f5), (xI y6 cI 40 f6), (xI y7 cI 40 f7)]) hP hD [0, 1, 2, 3, 4, 5, 6, 7, 8, 9, 10, 11, 12] (by decide +kernel) rfl
      exact W.iret (v := (-1000001)) hx hb hr (fun t ht hW => ⟨⟨(-1000001), (), rfl, (lf_X7_row_6 hfi hfe hj_1 f_5_0_0), ⟨fl, fe, f0, f1, f2, f3, f4, f5, f6, f7, xg, va_Ht ht hX9.1, hX9.2, hfe, (lf_X7_row_4 hfi hfe hj_1 f_5_0_0), (lf_X7_row_5 hfi hfe hj_1 f_5_0_0)⟩⟩, hS.F ht⟩) hS.2.2 dX7_row_22
    · subst h_5
      refine lv_if_eq (tgt := 20) hx hb dX7_row_11 (by decide) (fun c_ => absurd c_ (by decide)) (fun _ => ?_)
      refine lv_iload_n hx hb dX7_row_14 rfl (lv_at hl 3 rfl) ?_
      refine lv_bipush (v := 40) hx hb dX7_row_15 (by decide) ?_
      refine lv_icmp_le (tgt := 23) hx hb dX7_row_17 (by decide) (fun c_8 => ?_) (fun c_8 => ?_)
      · skip
        refine lv_iload_n hx hb dX7_row_23 rfl (lv_at hl 3 rfl) ?_
        refine lv_if_ge (tgt := 33) hx hb dX7_row_24 (by decide) (fun c_9 => ?_) (fun c_9 => ?_)
        · skip
          obtain ⟨j_10, hj_10, rfl⟩ := nat_le (n := 40) (i_nlt.mpr c_9) rfl c_8 (by decide)
          refine lv_aload_n hx hb dX7_row_33 rfl (lv_at hl 0 rfl) ?_
          refine va_get (D := (dC, dI)) (ci := 7) (v := .ref ro) (C := RX7) (T := TX7) (N := 11) hx hb hts i_X7_row_X7 hown hK hP 0 rfl rfl 0 (by decide) (hts _ mx_X7_row_2) (fun _ h9 => h9) rfl dX7_row_34 ?_
          refine lv_iload_n hx hb dX7_row_37 rfl (lv_at hl 1 rfl) ?_
          refine lv_iload_n hx hb dX7_row_38 rfl (lv_at hl 2 rfl) ?_
          refine lv_iload_n hx hb dX7_row_39 rfl (lv_at hl 3 rfl) ?_
          have hc_11 := cutW (wc := [(xo_5_rrr ro it la le), (xI la cI 8 fl), (xI le cI 8 fe), (xJ it cJ 8 fi), (xI y0 cI 40 f0), (xI y1 cI 40 f1), (xI y2 cI 40 f2), (xI y3 cI 40 f3), (xI y4 cI 40 f4), (xI y5 cI 40 f5), (xI y6 cI 40 f6), (xI y7 cI 40 f7)]) hP hD hS hA [1, 2, 3, 4, 5, 6, 7, 8, 9, 10, 11, 12] (by decide +kernel) rfl
          refine va_callv (va_runV (As := [.int (nI j_1), .int k1, .int (nI j_10)]) (rest := []) ⟨hx, hb, hml, hown, hts⟩ (r_X5_make l dC dI cI cZ cL cJ s.heap.size ro it la le fl fe y0 y1 y2 y3 y4 y5 y6 y7 f0 f1 f2 f3 f4 f5 f6 f7 fi j_1 j_10 k1 (hfi) (by omega) (hfe) (by omega)) (cwV 3 hts gX7_row_X5_make rfl rfl rfl (by decide +kernel) ⟨Nat.le_of_ble_eq_true rfl, Nat.le_of_ble_eq_true rfl⟩) (pvW 5 1 hK hP rfl rfl hc_11) rfl rfl hl.1 rfl (lv_room (Nat.le_of_ble_eq_true rfl)) dX7_row_40 ⟨Nat.le_of_ble_eq_true rfl, Nat.le_of_ble_eq_true rfl⟩) hS (fun q _ h => hc_11.2.2 q h) hc_11.2.2 (fun u_11 t_11 H1 locs ht hvm h_11 hB hz1 hk1 hS => ?_)
          refine xl_10_5 hB (fun fln_11 fen_11 f0n_11 f1n_11 f2n_11 f3n_11 f4n_11 f5n_11 f6n_11 f7n_11 hP1 hD1 hF_11_0 hF_11_1 hF_11_2 => ?_)
          clear hB
          rw [ht] at hP1
          obtain ⟨hP, hD⟩ := va_join (wr := [(xo_7_rrrrrrrrrii x ro ta no ac im tr pl cs ak xf xg)]) (w1 := [(xo_5_rrr ro it la le), (xI la cI 8 fln_11), (xI le cI 8 fen_11), (xJ it cJ 8 fi), (xI y0 cI 40 f0n_11), (xI y1 cI 40 f1n_11), (xI y2 cI 40 f2n_11), (xI y3 cI 40 f3n_11), (xI y4 cI 40 f4n_11), (xI y5 cI 40 f5n_11), (xI y6 cI 40 f6n_11), (xI y7 cI 40 f7n_11)]) hP hD [1, 2, 3, 4, 5, 6, 7, 8, 9, 10, 11, 12] [0] rfl rfl (by decide +kernel) (by decide +kernel) hk1 hc_11.2.2 hP1 hD1
          generalize H1 = H at hP hS ⊢
          have hP : va_P (dC, dI) vwCl [(xo_7_rrrrrrrrrii x ro ta no ac im tr pl cs ak xf xg), (xo_5_rrr ro it la le), (xI la cI 8 fln_11), (xI le cI 8 fen_11), (xJ it cJ 8 fi), (xI y0 cI 40 f0n_11), (xI y1 cI 40 f1n_11), (xI y2 cI 40 f2n_11), (xI y3 cI 40 f3n_11), (xI y4 cI 40 f4n_11), (xI y5 cI 40 f5n_11), (xI y6 cI 40 f6n_11), (xI y7 cI 40 f7n_11)] H := hP
          have hD := dto hP hD
          refine lv_aload_n hx hb dX7_row_43 rfl (lv_at hl 0 rfl) ?_
          refine lv_iload_n hx hb dX7_row_44 rfl (lv_at hl 3 rfl) ?_
          have hc_12 := cutW (wc := [(xo_7_rrrrrrrrrii x ro ta no ac im tr pl cs ak xf xg)]) hP hD hS hA [0] (by decide +kernel) rfl
          refine va_calli (va_runV (As := [.int (nI j_10)]) (rest := []) ⟨hx, hb, hml, hown, hts⟩ (r_X7_foundNothing l dC dI cI cZ cL cJ H.size x ro ta no ac im tr pl cs ak xf xg (nI j_10) ) (cwV 1 hts gX7_row_X7_foundNothing rfl rfl rfl (by decide +kernel) ⟨Nat.le_of_ble_eq_true rfl, Nat.le_of_ble_eq_true rfl⟩) (pvW 7 0 hK hP rfl rfl hc_12) rfl rfl hl.1 rfl (lv_room (Nat.le_of_ble_eq_true rfl)) dX7_row_45 ⟨Nat.le_of_ble_eq_true rfl, Nat.le_of_ble_eq_true rfl⟩) hS (fun q _ h => hc_12.2.2 q h) hc_12.2.2 (fun r_12 u_12 t_12 H1 locs ht hvm h_12 hB hz1 hk1 hS => ?_)
          refine xl_1_3 hB (fun xgn_12 hP1 hD1 hF_12_0 => ?_)
          clear hB
          rw [ht] at hP1
          obtain ⟨hP, hD⟩ := va_join (wr := [(xo_5_rrr ro it la le), (xI la cI 8 fln_11), (xI le cI 8 fen_11), (xJ it cJ 8 fi), (xI y0 cI 40 f0n_11), (xI y1 cI 40 f1n_11), (xI y2 cI 40 f2n_11), (xI y3 cI 40 f3n_11), (xI y4 cI 40 f4n_11), (xI y5 cI 40 f5n_11), (xI y6 cI 40 f6n_11), (xI y7 cI 40 f7n_11)]) (w1 := [(xo_7_rrrrrrrrrii x ro ta no ac im tr pl cs ak xf xgn_12)]) hP hD [0] [1, 2, 3, 4, 5, 6, 7, 8, 9, 10, 11, 12] rfl rfl (by decide +kernel) (by decide +kernel) hk1 hc_12.2.2 hP1 hD1
          generalize H1 = H at hP hS ⊢
          have hP : va_P (dC, dI) vwCl [(xo_5_rrr ro it la le), (xI la cI 8 fln_11), (xI le cI 8 fen_11), (xJ it cJ 8 fi), (xI y0 cI 40 f0n_11), (xI y1 cI 40 f1n_11), (xI y2 cI 40 f2n_11), (xI y3 cI 40 f3n_11), (xI y4 cI 40 f4n_11), (xI y5 cI 40 f5n_11), (xI y6 cI 40 f6n_11), (xI y7 cI 40 f7n_11), (xo_7_rrrrrrrrrii x ro ta no ac im tr pl cs ak xf xgn_12)] H := hP
          have hD := dto hP hD
          have hX9 := cut2 (wc := [(xo_7_rrrrrrrrrii x ro ta no ac im tr pl cs ak xf xgn_12), (xo_5_rrr ro it la le), (xI la cI 8 fln_11), (xI le cI 8 fen_11), (xJ it cJ 8 fi), (xI y0 cI 40 f0n_11), (xI y1 cI 40 f1n_11), (xI y2 cI 40 f2n_11), (xI y3 cI 40 f3n_11), (xI y4 cI 40 f4n_11), (xI y5 cI 40 f5n_11), (xI y6 cI 40 f6n_11), (xI y7 cI 40 f7n_11)]) hP hD [12, 0, 1, 2, 3, 4, 5, 6, 7, 8, 9, 10, 11] (by decide +kernel) rfl
          exact W.iret (v := r_12) hx hb hr (fun t ht hW => ⟨⟨r_12, (), rfl, (lf_X7_row_9 hfi hfe hj_1 f_5_1_0 c_8 c_9 hj_10 hF_11_0 hF_11_1 hF_11_2 hF_12_0 h_12), ⟨fln_11, fen_11, f0n_11, f1n_11, f2n_11, f3n_11, f4n_11, f5n_11, f6n_11, f7n_11, xgn_12, va_Ht ht hX9.1, hX9.2, hF_11_0, (lf_X7_row_7 hfi hfe hj_1 f_5_1_0 c_8 c_9 hj_10 hF_11_0 hF_11_1 hF_11_2 hF_12_0 h_12), (lf_X7_row_8 hfi hfe hj_1 f_5_1_0 c_8 c_9 hj_10 hF_11_0 hF_11_1 hF_11_2 hF_12_0 h_12)⟩⟩, hS.F ht⟩) hS.2.2 dX7_row_48
        · skip
          refine lv_aload_n hx hb dX7_row_27 rfl (lv_at hl 0 rfl) ?_
          refine lv_iconst (v := 4) hx hb dX7_row_28 (by decide) ?_
          have hc_13 := cutW (wc := [(xo_7_rrrrrrrrrii x ro ta no ac im tr pl cs ak xf xg)]) hP hD hS hA [0] (by decide +kernel) rfl
          refine va_calli (va_runV (As := [.int 4]) (rest := []) ⟨hx, hb, hml, hown, hts⟩ (r_X7_found l dC dI cI cZ cL cJ s.heap.size x ro ta no ac im tr pl cs ak xf xg 4 ) (cwV 1 hts gX7_row_X7_found rfl rfl rfl (by decide +kernel) ⟨Nat.le_of_ble_eq_true rfl, Nat.le_of_ble_eq_true rfl⟩) (pvW 7 0 hK hP rfl rfl hc_13) rfl rfl hl.1 rfl (lv_room (Nat.le_of_ble_eq_true rfl)) dX7_row_29 ⟨Nat.le_of_ble_eq_true rfl, Nat.le_of_ble_eq_true rfl⟩) hS (fun q _ h => hc_13.2.2 q h) hc_13.2.2 (fun r_13 u_13 t_13 H1 locs ht hvm h_13 hB hz1 hk1 hS => ?_)
          refine xl_1_3 hB (fun xgn_13 hP1 hD1 hF_13_0 => ?_)
          clear hB
          rw [ht] at hP1
          obtain ⟨hP, hD⟩ := va_join (wr := [(xo_5_rrr ro it la le), (xI la cI 8 fl), (xI le cI 8 fe), (xJ it cJ 8 fi), (xI y0 cI 40 f0), (xI y1 cI 40 f1), (xI y2 cI 40 f2), (xI y3 cI 40 f3), (xI y4 cI 40 f4), (xI y5 cI 40 f5), (xI y6 cI 40 f6), (xI y7 cI 40 f7)]) (w1 := [(xo_7_rrrrrrrrrii x ro ta no ac im tr pl cs ak xf xgn_13)]) hP hD [0] [1, 2, 3, 4, 5, 6, 7, 8, 9, 10, 11, 12] rfl rfl (by decide +kernel) (by decide +kernel) hk1 hc_13.2.2 hP1 hD1
          generalize H1 = H at hP hS ⊢
          have hP : va_P (dC, dI) vwCl [(xo_5_rrr ro it la le), (xI la cI 8 fl), (xI le cI 8 fe), (xJ it cJ 8 fi), (xI y0 cI 40 f0), (xI y1 cI 40 f1), (xI y2 cI 40 f2), (xI y3 cI 40 f3), (xI y4 cI 40 f4), (xI y5 cI 40 f5), (xI y6 cI 40 f6), (xI y7 cI 40 f7), (xo_7_rrrrrrrrrii x ro ta no ac im tr pl cs ak xf xgn_13)] H := hP
          have hD := dto hP hD
          have hX9 := cut2 (wc := [(xo_7_rrrrrrrrrii x ro ta no ac im tr pl cs ak xf xgn_13), (xo_5_rrr ro it la le), (xI la cI 8 fl), (xI le cI 8 fe), (xJ it cJ 8 fi), (xI y0 cI 40 f0), (xI y1 cI 40 f1), (xI y2 cI 40 f2), (xI y3 cI 40 f3), (xI y4 cI 40 f4), (xI y5 cI 40 f5), (xI y6 cI 40 f6), (xI y7 cI 40 f7)]) hP hD [12, 0, 1, 2, 3, 4, 5, 6, 7, 8, 9, 10, 11] (by decide +kernel) rfl
          exact W.iret (v := r_13) hx hb hr (fun t ht hW => ⟨⟨r_13, (), rfl, (lf_X7_row_12 hfi hfe hj_1 f_5_1_0 c_8 c_9 hF_13_0 h_13), ⟨fl, fe, f0, f1, f2, f3, f4, f5, f6, f7, xgn_13, va_Ht ht hX9.1, hX9.2, hfe, (lf_X7_row_10 hfi hfe hj_1 f_5_1_0 c_8 c_9 hF_13_0 h_13), (lf_X7_row_11 hfi hfe hj_1 f_5_1_0 c_8 c_9 hF_13_0 h_13)⟩⟩, hS.F ht⟩) hS.2.2 dX7_row_32
      · skip
        refine lv_ldc (own := RX7) (v := (-1000001)) hx hb hown (hts _ mx_X7_row_1) dX7_row_20 ?_
        have hX9 := cut2 (wc := [(xo_7_rrrrrrrrrii x ro ta no ac im tr pl cs ak xf xg), (xo_5_rrr ro it la le), (xI la cI 8 fl), (xI le cI 8 fe), (xJ it cJ 8 fi), (xI y0 cI 40 f0), (xI y1 cI 40 f1), (xI y2 cI 40 f2), (xI y3 cI 40 f3), (xI y4 cI 40 f4), (xI y5 cI 40 f5), (xI y6 cI 40 f6), (xI y7 cI 40 f7)]) hP hD [0, 1, 2, 3, 4, 5, 6, 7, 8, 9, 10, 11, 12] (by decide +kernel) rfl
        exact W.iret (v := (-1000001)) hx hb hr (fun t ht hW => ⟨⟨(-1000001), (), rfl, (lf_X7_row_15 hfi hfe hj_1 f_5_1_0 c_8), ⟨fl, fe, f0, f1, f2, f3, f4, f5, f6, f7, xg, va_Ht ht hX9.1, hX9.2, hfe, (lf_X7_row_13 hfi hfe hj_1 f_5_1_0 c_8), (lf_X7_row_14 hfi hfe hj_1 f_5_1_0 c_8)⟩⟩, hS.F ht⟩) hS.2.2 dX7_row_22
theorem lf_X7_set_1 {fl : Nat → Int32} {fe : Nat → Int32} {y0 : Nat} {y1 : Nat} {y2 : Nat} {y3 : Nat} {y4 : Nat} {y5 : Nat} {y6 : Nat} {y7 : Nat} {fi : Nat → Option Nat} {k0 : Int32} {k1 : Int32} {k2 : Int32} (hfi : fi 0 = some y0 ∧ fi 1 = some y1 ∧ fi 2 = some y2 ∧ fi 3 = some y3 ∧ fi 4 = some y4 ∧ fi 5 = some y5 ∧ fi 6 = some y6 ∧ fi 7 = some y7) (hfe : ∀ jq : Nat, jq < 8 → ∃ q : Nat, q ≤ 40 ∧ fe jq = nI q) (f_1_0_0 : (k0 < 0 ∨ 8 ≤ k0)) : (-1000001) = (ar_set (abl fl) (abn fl fe) k0 k1 k2) := by
  first
  | with_reducible exact (ar_set_0 (by assumption)).symm
  | (subst_vars; with_reducible exact (ar_set_1 (by assumption) (by assumption)).symm)
  | (subst_vars; with_reducible exact (ar_set_2 (by assumption) (by assumption) (by assumption)).symm)
  | (subst_vars; with_reducible exact (ar_set_3 (by assumption) (by assumption) (by assumption)).symm)
  | exact (ar_set_0 (by assumption)).symm
  | (subst_vars; exact (ar_set_1 (by assumption) (by assumption)).symm)
  | (subst_vars; exact (ar_set_2 (by assumption) (by assumption) (by assumption)).symm)
  | (subst_vars; exact (ar_set_3 (by assumption) (by assumption) (by assumption)).symm)
theorem lf_X7_set_2 {fl : Nat → Int32} {fe : Nat → Int32} {y0 : Nat} {y1 : Nat} {y2 : Nat} {y3 : Nat} {y4 : Nat} {y5 : Nat} {y6 : Nat} {y7 : Nat} {fi : Nat → Option Nat} {k1 : Int32} {k2 : Int32} {j_1 : Nat} {xgn_7 : Int32} {r_7 : Int32} (hfi : fi 0 = some y0 ∧ fi 1 = some y1 ∧ fi 2 = some y2 ∧ fi 3 = some y3 ∧ fi 4 = some y4 ∧ fi 5 = some y5 ∧ fi 6 = some y6 ∧ fi 7 = some y7) (hfe : ∀ jq : Nat, jq < 8 → ∃ q : Nat, q ≤ 40 ∧ fe jq = nI q) (hj_1 : j_1 < 8) (f_5_0_0 : fl j_1 = -1) (hF_7_0 : (xgn_7 : Int32) = 1) (h_7 : r_7 = (-1000010 - 1)) : r_7 = (ar_set (abl fl) (abn fl fe) (nI j_1) k1 k2) := by
  first
  | with_reducible exact (ar_set_0 (by assumption)).symm
  | (subst_vars; with_reducible exact (ar_set_1 (by assumption) (by assumption)).symm)
  | (subst_vars; with_reducible exact (ar_set_2 (by assumption) (by assumption) (by assumption)).symm)
  | (subst_vars; with_reducible exact (ar_set_3 (by assumption) (by assumption) (by assumption)).symm)
  | exact (ar_set_0 (by assumption)).symm
  | (subst_vars; exact (ar_set_1 (by assumption) (by assumption)).symm)
  | (subst_vars; exact (ar_set_2 (by assumption) (by assumption) (by assumption)).symm)
  | (subst_vars; exact (ar_set_3 (by assumption) (by assumption) (by assumption)).symm)
theorem lf_X7_set_3 {fl : Nat → Int32} {fe : Nat → Int32} {y0 : Nat} {y1 : Nat} {y2 : Nat} {y3 : Nat} {y4 : Nat} {y5 : Nat} {y6 : Nat} {y7 : Nat} {fi : Nat → Option Nat} {k2 : Int32} {j_1 : Nat} {pa_8 : Nat} {pb_8 : Nat} {r_10 : Int32} {xgn_11 : Int32} {r_11 : Int32} (hfi : fi 0 = some y0 ∧ fi 1 = some y1 ∧ fi 2 = some y2 ∧ fi 3 = some y3 ∧ fi 4 = some y4 ∧ fi 5 = some y5 ∧ fi 6 = some y6 ∧ fi 7 = some y7) (hfe : ∀ jq : Nat, jq < 8 → ∃ q : Nat, q ≤ 40 ∧ fe jq = nI q) (hj_1 : j_1 < 8) (f_5_1_0 : ¬ fl j_1 = -1) (f_5_1_1 : plc (fe j_1) (nI pa_8) 1) (hab_8 : pa_8 + pb_8 ≤ 40) (eb_8 : 1 = pb_8) (h_10 : r_10 = (laneX (fl j_1) k2)) (hF_11_0 : (xgn_11 : Int32) = 0) (h_11 : r_11 = r_10) : r_11 = (ar_set (abl fl) (abn fl fe) (nI j_1) (nI pa_8) k2) := by
  first
  | with_reducible exact (ar_set_0 (by assumption)).symm
  | (subst_vars; with_reducible exact (ar_set_1 (by assumption) (by assumption)).symm)
  | (subst_vars; with_reducible exact (ar_set_2 (by assumption) (by assumption) (by assumption)).symm)
  | (subst_vars; with_reducible exact (ar_set_3 (by assumption) (by assumption) (by assumption)).symm)
  | exact (ar_set_0 (by assumption)).symm
  | (subst_vars; exact (ar_set_1 (by assumption) (by assumption)).symm)
  | (subst_vars; exact (ar_set_2 (by assumption) (by assumption) (by assumption)).symm)
  | (subst_vars; exact (ar_set_3 (by assumption) (by assumption) (by assumption)).symm)
theorem lf_X7_set_4 {fl : Nat → Int32} {fe : Nat → Int32} {y0 : Nat} {y1 : Nat} {y2 : Nat} {y3 : Nat} {y4 : Nat} {y5 : Nat} {y6 : Nat} {y7 : Nat} {fi : Nat → Option Nat} {k1 : Int32} {k2 : Int32} {j_1 : Nat} {xgn_13 : Int32} {r_13 : Int32} (hfi : fi 0 = some y0 ∧ fi 1 = some y1 ∧ fi 2 = some y2 ∧ fi 3 = some y3 ∧ fi 4 = some y4 ∧ fi 5 = some y5 ∧ fi 6 = some y6 ∧ fi 7 = some y7) (hfe : ∀ jq : Nat, jq < 8 → ∃ q : Nat, q ≤ 40 ∧ fe jq = nI q) (hj_1 : j_1 < 8) (f_5_2_0 : ¬ fl j_1 = -1) (f_5_2_1 : ¬ plc (fe j_1) k1 1) (hF_13_0 : (xgn_13 : Int32) = 2) (h_13 : r_13 = (-1000010 - 2)) : r_13 = (ar_set (abl fl) (abn fl fe) (nI j_1) k1 k2) := by
  first
  | with_reducible exact (ar_set_0 (by assumption)).symm
  | (subst_vars; with_reducible exact (ar_set_1 (by assumption) (by assumption)).symm)
  | (subst_vars; with_reducible exact (ar_set_2 (by assumption) (by assumption) (by assumption)).symm)
  | (subst_vars; with_reducible exact (ar_set_3 (by assumption) (by assumption) (by assumption)).symm)
  | exact (ar_set_0 (by assumption)).symm
  | (subst_vars; exact (ar_set_1 (by assumption) (by assumption)).symm)
  | (subst_vars; exact (ar_set_2 (by assumption) (by assumption) (by assumption)).symm)
  | (subst_vars; exact (ar_set_3 (by assumption) (by assumption) (by assumption)).symm)
set_option maxHeartbeats 4000000 in
set_option maxRecDepth 100000 in
theorem r_X7_set (l : Launch) (dC : Nat → ClassId) (dI : Nat → Nat → Nat) (cI cZ cL cJ : ClassId) (sz : Nat) (x : Nat) (ro : Nat) (ta : Nat) (no : Nat) (ac : Nat) (im : Nat) (tr : Nat) (pl : Nat) (cs : Nat) (ak : Nat) (xf : Int32) (xg : Int32) (it : Nat) (la : Nat) (le : Nat) (fl : Nat → Int32) (fe : Nat → Int32) (y0 : Nat) (y1 : Nat) (y2 : Nat) (y3 : Nat) (y4 : Nat) (y5 : Nat) (y6 : Nat) (y7 : Nat) (f0 : Nat → Int32) (f1 : Nat → Int32) (f2 : Nat → Int32) (f3 : Nat → Int32) (f4 : Nat → Int32) (f5 : Nat → Int32) (f6 : Nat → Int32) (f7 : Nat → Int32) (fi : Nat → Option Nat) (k0 : Int32) (k1 : Int32) (k2 : Int32) (hfi : fi 0 = some y0 ∧ fi 1 = some y1 ∧ fi 2 = some y2 ∧ fi 3 = some y3 ∧ fi 4 = some y4 ∧ fi 5 = some y5 ∧ fi 6 = some y6 ∧ fi 7 = some y7) (hfe : ∀ jq : Nat, jq < 8 → ∃ q : Nat, q ≤ 40 ∧ fe jq = nI q) : Met l yX7_set wsX7_set ({ frames := 2, cells := 0, slots := 0, locals := 46 }) (va_Pc [.ref x, .int k0, .int k1, .int k2] (fun U => U.heap.size = sz ∧ va_P (dC, dI) vwCl [(xo_7_rrrrrrrrrii x ro ta no ac im tr pl cs ak xf xg), (xo_5_rrr ro it la le), (xI la cI 8 fl), (xI le cI 8 fe), (xJ it cJ 8 fi), (xI y0 cI 40 f0), (xI y1 cI 40 f1), (xI y2 cI 40 f2), (xI y3 cI 40 f3), (xI y4 cI 40 f4), (xI y5 cI 40 f5), (xI y6 cI 40 f6), (xI y7 cI 40 f7)] U.heap ∧ va_K (dC, dI) vwCl [(cI, .int), (cZ, .boolean), (cL, .object RX3), (cJ, .array .int)] U ∧ va_D (fun _ => True) [(xo_7_rrrrrrrrrii x ro ta no ac im tr pl cs ak xf xg), (xo_5_rrr ro it la le), (xI la cI 8 fl), (xI le cI 8 fe), (xJ it cJ 8 fi), (xI y0 cI 40 f0), (xI y1 cI 40 f1), (xI y2 cI 40 f2), (xI y3 cI 40 f3), (xI y4 cI 40 f4), (xI y5 cI 40 f5), (xI y6 cI 40 f6), (xI y7 cI 40 f7)])) (va_Qi (fun r (_ : Unit) => r = (ar_set (abl fl) (abn fl fe) k0 k1 k2)) (fun (_ : Unit) t => ∃ (f0n : Nat → Int32) (f1n : Nat → Int32) (f2n : Nat → Int32) (f3n : Nat → Int32) (f4n : Nat → Int32) (f5n : Nat → Int32) (f6n : Nat → Int32) (f7n : Nat → Int32) (xgn : Int32), va_P (dC, dI) vwCl [(xo_7_rrrrrrrrrii x ro ta no ac im tr pl cs ak xf xgn), (xo_5_rrr ro it la le), (xI la cI 8 fl), (xI le cI 8 fe), (xJ it cJ 8 fi), (xI y0 cI 40 f0n), (xI y1 cI 40 f1n), (xI y2 cI 40 f2n), (xI y3 cI 40 f3n), (xI y4 cI 40 f4n), (xI y5 cI 40 f5n), (xI y6 cI 40 f6n), (xI y7 cI 40 f7n)] t.heap ∧ va_D (va_A [(xo_7_rrrrrrrrrii x ro ta no ac im tr pl cs ak xf xg), (xo_5_rrr ro it la le), (xI la cI 8 fl), (xI le cI 8 fe), (xJ it cJ 8 fi), (xI y0 cI 40 f0), (xI y1 cI 40 f1), (xI y2 cI 40 f2), (xI y3 cI 40 f3), (xI y4 cI 40 f4), (xI y5 cI 40 f5), (xI y6 cI 40 f6), (xI y7 cI 40 f7)] sz) [(xo_7_rrrrrrrrrii x ro ta no ac im tr pl cs ak xf xgn), (xo_5_rrr ro it la le), (xI la cI 8 fl), (xI le cI 8 fe), (xJ it cJ 8 fi), (xI y0 cI 40 f0n), (xI y1 cI 40 f1n), (xI y2 cI 40 f2n), (xI y3 cI 40 f3n), (xI y4 cI 40 f4n), (xI y5 cI 40 f5n), (xI y6 cI 40 f6n), (xI y7 cI 40 f7n)]) (va_A [(xo_7_rrrrrrrrrii x ro ta no ac im tr pl cs ak xf xg), (xo_5_rrr ro it la le), (xI la cI 8 fl), (xI le cI 8 fe), (xJ it cJ 8 fi), (xI y0 cI 40 f0), (xI y1 cI 40 f1), (xI y2 cI 40 f2), (xI y3 cI 40 f3), (xI y4 cI 40 f4), (xI y5 cI 40 f5), (xI y6 cI 40 f6), (xI y7 cI 40 f7)] sz)) 0 0 (va_A [(xo_7_rrrrrrrrrii x ro ta no ac im tr pl cs ak xf xg), (xo_5_rrr ro it la le), (xI la cI 8 fl), (xI le cI 8 fe), (xJ it cJ 8 fi), (xI y0 cI 40 f0), (xI y1 cI 40 f1), (xI y2 cI 40 f2), (xI y3 cI 40 f3), (xI y4 cI 40 f4), (xI y5 cI 40 f5), (xI y6 cI 40 f6), (xI y7 cI 40 f7)] sz) := by
  refine Met.ofW (cc := cX7_set) (maxL := 5) (ret := (some .int)) (by decide) rfl ?_
  intro p e s m args below meth c s₁ B hml hv
  obtain ⟨rfl, hsz, hP, hK, hD0⟩ := hv
  have hx := B.exec
  have hb := B.bytes
  have hr := B.returns
  have hts := atoms_spec (ws := wsX7_set) B.pre
  have hown : s.vm.findClass RX7 = some m.cls := findClass_of_methodNamed B.named
  have hlocks := B.notSynchronized
  subst hsz
  have hD := hD0.self (sz := s.heap.size)
  generalize hAe : va_A [(xo_7_rrrrrrrrrii x ro ta no ac im tr pl cs ak xf xg), (xo_5_rrr ro it la le), (xI la cI 8 fl), (xI le cI 8 fe), (xJ it cJ 8 fi), (xI y0 cI 40 f0), (xI y1 cI 40 f1), (xI y2 cI 40 f2), (xI y3 cI 40 f3), (xI y4 cI 40 f4), (xI y5 cI 40 f5), (xI y6 cI 40 f6), (xI y7 cI 40 f7)] s.heap.size = A at hD ⊢
  have hA : ∀ q : Nat, s.heap.size ≤ q → A q := fun q h => by rw [← hAe]; exact Or.inr h
  have hS : va_S A s.heap s.heap [] := va_S.rf
  have hP : va_P (dC, dI) vwCl [(xo_7_rrrrrrrrrii x ro ta no ac im tr pl cs ak xf xg), (xo_5_rrr ro it la le), (xI la cI 8 fl), (xI le cI 8 fe), (xJ it cJ 8 fi), (xI y0 cI 40 f0), (xI y1 cI 40 f1), (xI y2 cI 40 f2), (xI y3 cI 40 f3), (xI y4 cI 40 f4), (xI y5 cI 40 f5), (xI y6 cI 40 f6), (xI y7 cI 40 f7)] s.heap := hP
  have hl := lv_entry ([.ref x, .int k0, .int k1, .int k2]) (n := 5) (Nat.le_of_ble_eq_true rfl)
  rw [lg_entry_eq]
  generalize (lg_sl ([.ref x, .int k0, .int k1, .int k2]) ++ List.replicate (5 - (lg_sl ([.ref x, .int k0, .int k1, .int k2])).length) Slot.unset).toArray = ls at hl ⊢
  have hl : lv_has ls 5 [(0, .ref x), (1, .int k0), (2, .int k1), (3, .int k2)] := hl
  refine lv_iload_n hx hb dX7_set_0 rfl (lv_at hl 1 rfl) ?_
  have hPc_1 := hP.sub (ws' := []) [] rfl
  refine vp_callSi (W.runS (As := [.int k0]) (rest := []) ⟨hx, hb, hml, hown, hts⟩ (r_X5_isRow l dC dI cI cZ cL cJ k0 ) (va_cwS 1 hts gX7_set_X5_isRow rfl rfl rfl (by decide +kernel) ⟨Nat.le_of_ble_eq_true rfl, Nat.le_of_ble_eq_true rfl⟩) (psP hK hPc_1) rfl rfl hl.1 rfl (lv_room (Nat.le_of_ble_eq_true rfl)) dX7_set_1 ⟨Nat.le_of_ble_eq_true rfl, Nat.le_of_ble_eq_true rfl⟩) (fun r_1 h_1 => ?_)
  rcases h_1 with ⟨h_1, f_1_0_0⟩ | ⟨h_1, f_1_1_0⟩
  · subst h_1
    refine lv_if_ne (tgt := 10) hx hb dX7_set_4 (by decide) (fun c_ => absurd (by decide) c_) (fun _ => ?_)
    refine lv_ldc (own := RX7) (v := (-1000001)) hx hb hown (hts _ mx_X7_set_1) dX7_set_7 ?_
    have hX9 := cut2 (wc := [(xo_7_rrrrrrrrrii x ro ta no ac im tr pl cs ak xf xg), (xo_5_rrr ro it la le), (xI la cI 8 fl), (xI le cI 8 fe), (xJ it cJ 8 fi), (xI y0 cI 40 f0), (xI y1 cI 40 f1), (xI y2 cI 40 f2), (xI y3 cI 40 f3), (xI y4 cI 40 f4), (xI y5 cI 40 f5), (xI y6 cI 40 f6), (xI y7 cI 40 f7)]) hP hD [0, 1, 2, 3, 4, 5, 6, 7, 8, 9, 10, 11, 12] (by decide +kernel) rfl
    exact W.iret (v := (-1000001)) hx hb hr (fun t ht hW => ⟨⟨(-1000001), (), rfl, (lf_X7_set_1 hfi hfe f_1_0_0), ⟨f0, f1, f2, f3, f4, f5, f6, f7, xg, va_Ht ht hX9.1, hX9.2⟩⟩, hS.F ht⟩) hS.2.2 dX7_set_9
  · subst h_1
    obtain ⟨j_1, hj_1, rfl⟩ := vp_in_of f_1_1_0 (by omega)
    refine lv_if_ne (tgt := 10) hx hb dX7_set_4 (by decide) (fun _ => ?_) (fun c_ => absurd c_ (by decide))
    refine lv_aload_n hx hb dX7_set_10 rfl (lv_at hl 0 rfl) ?_
    refine va_get (D := (dC, dI)) (ci := 7) (v := .ref ro) (C := RX7) (T := TX7) (N := 11) hx hb hts i_X7_set_X7 hown hK hP 0 rfl rfl 0 (by decide) (hts _ mx_X7_set_2) (fun _ h9 => h9) rfl dX7_set_11 ?_
    refine lv_iload_n hx hb dX7_set_14 rfl (lv_at hl 1 rfl) ?_
    refine lv_iload_n hx hb dX7_set_15 rfl (lv_at hl 2 rfl) ?_
    refine lv_iconst (v := 1) hx hb dX7_set_16 (by decide) ?_
    have hPc_5 := hP.sub (ws' := [(xo_5_rrr ro it la le), (xI la cI 8 fl), (xI le cI 8 fe)]) [1, 2, 3] rfl
    refine vp_callSi (W.runV (As := [.int (nI j_1), .int k1, .int 1]) (rest := []) ⟨hx, hb, hml, hown, hts⟩ (r_X5_findingOf l dC dI cI cZ cL cJ ro it la le fl fe j_1 k1 1 (hfe) (by omega)) (cwV 3 hts gX7_set_X5_findingOf rfl rfl rfl (by decide +kernel) ⟨Nat.le_of_ble_eq_true rfl, Nat.le_of_ble_eq_true rfl⟩) (pvP 5 1 hK hP rfl rfl hPc_5) rfl rfl hl.1 rfl (lv_room (Nat.le_of_ble_eq_true rfl)) dX7_set_17 ⟨Nat.le_of_ble_eq_true rfl, Nat.le_of_ble_eq_true rfl⟩) (fun r_5 h_5 => ?_)
    rcases h_5 with ⟨h_5, f_5_0_0⟩ | ⟨h_5, f_5_1_0, f_5_1_1, f_5_1_2⟩ | ⟨h_5, f_5_2_0, f_5_2_1⟩
    · subst h_5
      refine lv_istore (lv' := [(4, .int 1), (0, .ref x), (1, .int (nI j_1)), (2, .int k1), (3, .int k2)]) hx hb dX7_set_20 hl (by decide) rfl (fun ls hl => ?_)
      refine lv_iload hx hb dX7_set_22 (lv_at hl 0 rfl) ?_
      refine lv_if_eq (tgt := 34) hx hb dX7_set_24 (by decide) (fun c_ => absurd c_ (by decide)) (fun _ => ?_)
      refine lv_aload_n hx hb dX7_set_27 rfl (lv_at hl 1 rfl) ?_
      refine lv_iload hx hb dX7_set_28 (lv_at hl 0 rfl) ?_
      have hc_7 := cutW (wc := [(xo_7_rrrrrrrrrii x ro ta no ac im tr pl cs ak xf xg)]) hP hD hS hA [0] (by decide +kernel) rfl
      refine va_calli (va_runV (As := [.int 1]) (rest := []) ⟨hx, hb, hml, hown, hts⟩ (r_X7_found l dC dI cI cZ cL cJ s.heap.size x ro ta no ac im tr pl cs ak xf xg 1 ) (cwV 1 hts gX7_set_X7_found rfl rfl rfl (by decide +kernel) ⟨Nat.le_of_ble_eq_true rfl, Nat.le_of_ble_eq_true rfl⟩) (pvW 7 0 hK hP rfl rfl hc_7) rfl rfl hl.1 rfl (lv_room (Nat.le_of_ble_eq_true rfl)) dX7_set_30 ⟨Nat.le_of_ble_eq_true rfl, Nat.le_of_ble_eq_true rfl⟩) hS (fun q _ h => hc_7.2.2 q h) hc_7.2.2 (fun r_7 u_7 t_7 H1 locs ht hvm h_7 hB hz1 hk1 hS => ?_)
      refine xl_1_3 hB (fun xgn_7 hP1 hD1 hF_7_0 => ?_)
      clear hB
      rw [ht] at hP1
      obtain ⟨hP, hD⟩ := va_join (wr := [(xo_5_rrr ro it la le), (xI la cI 8 fl), (xI le cI 8 fe), (xJ it cJ 8 fi), (xI y0 cI 40 f0), (xI y1 cI 40 f1), (xI y2 cI 40 f2), (xI y3 cI 40 f3), (xI y4 cI 40 f4), (xI y5 cI 40 f5), (xI y6 cI 40 f6), (xI y7 cI 40 f7)]) (w1 := [(xo_7_rrrrrrrrrii x ro ta no ac im tr pl cs ak xf xgn_7)]) hP hD [0] [1, 2, 3, 4, 5, 6, 7, 8, 9, 10, 11, 12] rfl rfl (by decide +kernel) (by decide +kernel) hk1 hc_7.2.2 hP1 hD1
      generalize H1 = H at hP hS ⊢
      have hP : va_P (dC, dI) vwCl [(xo_5_rrr ro it la le), (xI la cI 8 fl), (xI le cI 8 fe), (xJ it cJ 8 fi), (xI y0 cI 40 f0), (xI y1 cI 40 f1), (xI y2 cI 40 f2), (xI y3 cI 40 f3), (xI y4 cI 40 f4), (xI y5 cI 40 f5), (xI y6 cI 40 f6), (xI y7 cI 40 f7), (xo_7_rrrrrrrrrii x ro ta no ac im tr pl cs ak xf xgn_7)] H := hP
      have hD := dto hP hD
      have hX9 := cut2 (wc := [(xo_7_rrrrrrrrrii x ro ta no ac im tr pl cs ak xf xgn_7), (xo_5_rrr ro it la le), (xI la cI 8 fl), (xI le cI 8 fe), (xJ it cJ 8 fi), (xI y0 cI 40 f0), (xI y1 cI 40 f1), (xI y2 cI 40 f2), (xI y3 cI 40 f3), (xI y4 cI 40 f4), (xI y5 cI 40 f5), (xI y6 cI 40 f6), (xI y7 cI 40 f7)]) hP hD [12, 0, 1, 2, 3, 4, 5, 6, 7, 8, 9, 10, 11] (by decide +kernel) rfl
      exact W.iret (v := r_7) hx hb hr (fun t ht hW => ⟨⟨r_7, (), rfl, (lf_X7_set_2 hfi hfe hj_1 f_5_0_0 hF_7_0 h_7), ⟨f0, f1, f2, f3, f4, f5, f6, f7, xgn_7, va_Ht ht hX9.1, hX9.2⟩⟩, hS.F ht⟩) hS.2.2 dX7_set_33
    · subst h_5
      obtain ⟨pa_8, pb_8, ea_8, eb_8, hab_8⟩ := f_5_1_2
      subst ea_8
      have eb_8 : 1 = pb_8 := nI_inj eb_8 (by omega) (by omega)
      refine lv_istore (lv' := [(4, .int 0), (0, .ref x), (1, .int (nI j_1)), (2, .int (nI pa_8)), (3, .int k2)]) hx hb dX7_set_20 hl (by decide) rfl (fun ls hl => ?_)
      refine lv_iload hx hb dX7_set_22 (lv_at hl 0 rfl) ?_
      refine lv_if_eq (tgt := 34) hx hb dX7_set_24 (by decide) (fun _ => ?_) (fun c_ => absurd (by decide) c_)
      refine lv_aload_n hx hb dX7_set_34 rfl (lv_at hl 1 rfl) ?_
      refine lv_aload_n hx hb dX7_set_35 rfl (lv_at hl 1 rfl) ?_
      refine va_get (D := (dC, dI)) (ci := 7) (v := .ref ro) (C := RX7) (T := TX7) (N := 11) hx hb hts i_X7_set_X7 hown hK hP 0 rfl rfl 0 (by decide) (hts _ mx_X7_set_2) (fun _ h9 => h9) rfl dX7_set_36 ?_
      refine lv_iload_n hx hb dX7_set_39 rfl (lv_at hl 2 rfl) ?_
      refine lv_iload_n hx hb dX7_set_40 rfl (lv_at hl 3 rfl) ?_
      refine lv_iload_n hx hb dX7_set_41 rfl (lv_at hl 4 rfl) ?_
      have hc_10 := cutW (wc := [(xo_5_rrr ro it la le), (xI la cI 8 fl), (xJ it cJ 8 fi), (xI y0 cI 40 f0), (xI y1 cI 40 f1), (xI y2 cI 40 f2), (xI y3 cI 40 f3), (xI y4 cI 40 f4), (xI y5 cI 40 f5), (xI y6 cI 40 f6), (xI y7 cI 40 f7)]) hP hD hS hA [1, 2, 4, 5, 6, 7, 8, 9, 10, 11, 12] (by decide +kernel) rfl
      refine va_calli (va_runV (As := [.int (nI j_1), .int (nI pa_8), .int k2]) (rest := [.ref x]) ⟨hx, hb, hml, hown, hts⟩ (r_X5_put l dC dI cI cZ cL cJ s.heap.size ro it la le fl fe y0 y1 y2 y3 y4 y5 y6 y7 f0 f1 f2 f3 f4 f5 f6 f7 fi j_1 pa_8 k2 (hfi) (by omega) (by omega)) (cwV 3 hts gX7_set_X5_put rfl rfl rfl (by decide +kernel) ⟨Nat.le_of_ble_eq_true rfl, Nat.le_of_ble_eq_true rfl⟩) (pvW 5 1 hK hP rfl rfl hc_10) rfl rfl hl.1 rfl (lv_room (Nat.le_of_ble_eq_true rfl)) dX7_set_42 ⟨Nat.le_of_ble_eq_true rfl, Nat.le_of_ble_eq_true rfl⟩) hS (fun q _ h => hc_10.2.2 q h) hc_10.2.2 (fun r_10 u_10 t_10 H1 locs ht hvm h_10 hB hz1 hk1 hS => ?_)
      refine xl_8_2 hB (fun f0n_10 f1n_10 f2n_10 f3n_10 f4n_10 f5n_10 f6n_10 f7n_10 hP1 hD1 => ?_)
      clear hB
      rw [ht] at hP1
      obtain ⟨hP, hD⟩ := va_join (wr := [(xo_7_rrrrrrrrrii x ro ta no ac im tr pl cs ak xf xg), (xI le cI 8 fe)]) (w1 := [(xo_5_rrr ro it la le), (xI la cI 8 fl), (xJ it cJ 8 fi), (xI y0 cI 40 f0n_10), (xI y1 cI 40 f1n_10), (xI y2 cI 40 f2n_10), (xI y3 cI 40 f3n_10), (xI y4 cI 40 f4n_10), (xI y5 cI 40 f5n_10), (xI y6 cI 40 f6n_10), (xI y7 cI 40 f7n_10)]) hP hD [1, 2, 4, 5, 6, 7, 8, 9, 10, 11, 12] [0, 3] rfl rfl (by decide +kernel) (by decide +kernel) hk1 hc_10.2.2 hP1 hD1
      generalize H1 = H at hP hS ⊢
      have hP : va_P (dC, dI) vwCl [(xo_7_rrrrrrrrrii x ro ta no ac im tr pl cs ak xf xg), (xI le cI 8 fe), (xo_5_rrr ro it la le), (xI la cI 8 fl), (xJ it cJ 8 fi), (xI y0 cI 40 f0n_10), (xI y1 cI 40 f1n_10), (xI y2 cI 40 f2n_10), (xI y3 cI 40 f3n_10), (xI y4 cI 40 f4n_10), (xI y5 cI 40 f5n_10), (xI y6 cI 40 f6n_10), (xI y7 cI 40 f7n_10)] H := hP
      have hD := dto hP hD
      have hc_11 := cutW (wc := [(xo_7_rrrrrrrrrii x ro ta no ac im tr pl cs ak xf xg)]) hP hD hS hA [0] (by decide +kernel) rfl
      refine va_calli (va_runV (As := [.int r_10]) (rest := []) ⟨hx, hb, hml, hown, hts⟩ (r_X7_foundNothing l dC dI cI cZ cL cJ H.size x ro ta no ac im tr pl cs ak xf xg r_10 ) (cwV 1 hts gX7_set_X7_foundNothing rfl rfl rfl (by decide +kernel) ⟨Nat.le_of_ble_eq_true rfl, Nat.le_of_ble_eq_true rfl⟩) (pvW 7 0 hK hP rfl rfl hc_11) rfl rfl hl.1 rfl (lv_room (Nat.le_of_ble_eq_true rfl)) dX7_set_45 ⟨Nat.le_of_ble_eq_true rfl, Nat.le_of_ble_eq_true rfl⟩) hS (fun q _ h => hc_11.2.2 q h) hc_11.2.2 (fun r_11 u_11 t_11 H1 locs ht hvm h_11 hB hz1 hk1 hS => ?_)
      refine xl_1_3 hB (fun xgn_11 hP1 hD1 hF_11_0 => ?_)
      clear hB
      rw [ht] at hP1
      obtain ⟨hP, hD⟩ := va_join (wr := [(xI le cI 8 fe), (xo_5_rrr ro it la le), (xI la cI 8 fl), (xJ it cJ 8 fi), (xI y0 cI 40 f0n_10), (xI y1 cI 40 f1n_10), (xI y2 cI 40 f2n_10), (xI y3 cI 40 f3n_10), (xI y4 cI 40 f4n_10), (xI y5 cI 40 f5n_10), (xI y6 cI 40 f6n_10), (xI y7 cI 40 f7n_10)]) (w1 := [(xo_7_rrrrrrrrrii x ro ta no ac im tr pl cs ak xf xgn_11)]) hP hD [0] [1, 2, 3, 4, 5, 6, 7, 8, 9, 10, 11, 12] rfl rfl (by decide +kernel) (by decide +kernel) hk1 hc_11.2.2 hP1 hD1
      generalize H1 = H at hP hS ⊢
      have hP : va_P (dC, dI) vwCl [(xI le cI 8 fe), (xo_5_rrr ro it la le), (xI la cI 8 fl), (xJ it cJ 8 fi), (xI y0 cI 40 f0n_10), (xI y1 cI 40 f1n_10), (xI y2 cI 40 f2n_10), (xI y3 cI 40 f3n_10), (xI y4 cI 40 f4n_10), (xI y5 cI 40 f5n_10), (xI y6 cI 40 f6n_10), (xI y7 cI 40 f7n_10), (xo_7_rrrrrrrrrii x ro ta no ac im tr pl cs ak xf xgn_11)] H := hP
      have hD := dto hP hD
      have hX9 := cut2 (wc := [(xo_7_rrrrrrrrrii x ro ta no ac im tr pl cs ak xf xgn_11), (xo_5_rrr ro it la le), (xI la cI 8 fl), (xI le cI 8 fe), (xJ it cJ 8 fi), (xI y0 cI 40 f0n_10), (xI y1 cI 40 f1n_10), (xI y2 cI 40 f2n_10), (xI y3 cI 40 f3n_10), (xI y4 cI 40 f4n_10), (xI y5 cI 40 f5n_10), (xI y6 cI 40 f6n_10), (xI y7 cI 40 f7n_10)]) hP hD [12, 1, 2, 0, 3, 4, 5, 6, 7, 8, 9, 10, 11] (by decide +kernel) rfl
      exact W.iret (v := r_11) hx hb hr (fun t ht hW => ⟨⟨r_11, (), rfl, (lf_X7_set_3 hfi hfe hj_1 f_5_1_0 f_5_1_1 hab_8 eb_8 h_10 hF_11_0 h_11), ⟨f0n_10, f1n_10, f2n_10, f3n_10, f4n_10, f5n_10, f6n_10, f7n_10, xgn_11, va_Ht ht hX9.1, hX9.2⟩⟩, hS.F ht⟩) hS.2.2 dX7_set_48
    · subst h_5
      refine lv_istore (lv' := [(4, .int 2), (0, .ref x), (1, .int (nI j_1)), (2, .int k1), (3, .int k2)]) hx hb dX7_set_20 hl (by decide) rfl (fun ls hl => ?_)
      refine lv_iload hx hb dX7_set_22 (lv_at hl 0 rfl) ?_
      refine lv_if_eq (tgt := 34) hx hb dX7_set_24 (by decide) (fun c_ => absurd c_ (by decide)) (fun _ => ?_)
      refine lv_aload_n hx hb dX7_set_27 rfl (lv_at hl 1 rfl) ?_
      refine lv_iload hx hb dX7_set_28 (lv_at hl 0 rfl) ?_
      have hc_13 := cutW (wc := [(xo_7_rrrrrrrrrii x ro ta no ac im tr pl cs ak xf xg)]) hP hD hS hA [0] (by decide +kernel) rfl
      refine va_calli (va_runV (As := [.int 2]) (rest := []) ⟨hx, hb, hml, hown, hts⟩ (r_X7_found l dC dI cI cZ cL cJ s.heap.size x ro ta no ac im tr pl cs ak xf xg 2 ) (cwV 1 hts gX7_set_X7_found rfl rfl rfl (by decide +kernel) ⟨Nat.le_of_ble_eq_true rfl, Nat.le_of_ble_eq_true rfl⟩) (pvW 7 0 hK hP rfl rfl hc_13) rfl rfl hl.1 rfl (lv_room (Nat.le_of_ble_eq_true rfl)) dX7_set_30 ⟨Nat.le_of_ble_eq_true rfl, Nat.le_of_ble_eq_true rfl⟩) hS (fun q _ h => hc_13.2.2 q h) hc_13.2.2 (fun r_13 u_13 t_13 H1 locs ht hvm h_13 hB hz1 hk1 hS => ?_)
      refine xl_1_3 hB (fun xgn_13 hP1 hD1 hF_13_0 => ?_)
      clear hB
      rw [ht] at hP1
      obtain ⟨hP, hD⟩ := va_join (wr := [(xo_5_rrr ro it la le), (xI la cI 8 fl), (xI le cI 8 fe), (xJ it cJ 8 fi), (xI y0 cI 40 f0), (xI y1 cI 40 f1), (xI y2 cI 40 f2), (xI y3 cI 40 f3), (xI y4 cI 40 f4), (xI y5 cI 40 f5), (xI y6 cI 40 f6), (xI y7 cI 40 f7)]) (w1 := [(xo_7_rrrrrrrrrii x ro ta no ac im tr pl cs ak xf xgn_13)]) hP hD [0] [1, 2, 3, 4, 5, 6, 7, 8, 9, 10, 11, 12] rfl rfl (by decide +kernel) (by decide +kernel) hk1 hc_13.2.2 hP1 hD1
      generalize H1 = H at hP hS ⊢
      have hP : va_P (dC, dI) vwCl [(xo_5_rrr ro it la le), (xI la cI 8 fl), (xI le cI 8 fe), (xJ it cJ 8 fi), (xI y0 cI 40 f0), (xI y1 cI 40 f1), (xI y2 cI 40 f2), (xI y3 cI 40 f3), (xI y4 cI 40 f4), (xI y5 cI 40 f5), (xI y6 cI 40 f6), (xI y7 cI 40 f7), (xo_7_rrrrrrrrrii x ro ta no ac im tr pl cs ak xf xgn_13)] H := hP
      have hD := dto hP hD
      have hX9 := cut2 (wc := [(xo_7_rrrrrrrrrii x ro ta no ac im tr pl cs ak xf xgn_13), (xo_5_rrr ro it la le), (xI la cI 8 fl), (xI le cI 8 fe), (xJ it cJ 8 fi), (xI y0 cI 40 f0), (xI y1 cI 40 f1), (xI y2 cI 40 f2), (xI y3 cI 40 f3), (xI y4 cI 40 f4), (xI y5 cI 40 f5), (xI y6 cI 40 f6), (xI y7 cI 40 f7)]) hP hD [12, 0, 1, 2, 3, 4, 5, 6, 7, 8, 9, 10, 11] (by decide +kernel) rfl
      exact W.iret (v := r_13) hx hb hr (fun t ht hW => ⟨⟨r_13, (), rfl, (lf_X7_set_4 hfi hfe hj_1 f_5_2_0 f_5_2_1 hF_13_0 h_13), ⟨f0, f1, f2, f3, f4, f5, f6, f7, xgn_13, va_Ht ht hX9.1, hX9.2⟩⟩, hS.F ht⟩) hS.2.2 dX7_set_33
theorem lf_X7_copy_1 {fl : Nat → Int32} {fe : Nat → Int32} {y0 : Nat} {y1 : Nat} {y2 : Nat} {y3 : Nat} {y4 : Nat} {y5 : Nat} {y6 : Nat} {y7 : Nat} {fi : Nat → Option Nat} {k0 : Int32} {k1 : Int32} {k2 : Int32} {k3 : Int32} {k4 : Int32} (hfi : fi 0 = some y0 ∧ fi 1 = some y1 ∧ fi 2 = some y2 ∧ fi 3 = some y3 ∧ fi 4 = some y4 ∧ fi 5 = some y5 ∧ fi 6 = some y6 ∧ fi 7 = some y7) (hfe : ∀ jq : Nat, jq < 8 → ∃ q : Nat, q ≤ 40 ∧ fe jq = nI q) (f_1_0_0 : (k0 < 0 ∨ 8 ≤ k0)) : (-1000001) = (ar_copy (abl fl) (abn fl fe) k0 k1 k2 k3 k4) := by
  first
  | with_reducible exact (ar_copy_0 (Or.inl (by assumption))).symm
  | with_reducible exact (ar_copy_0 (Or.inr (by assumption))).symm
  | ((with_reducible refine (ar_copy_0 ?_).symm); grind)
  | (subst_vars; with_reducible exact (ar_copy_1 (by assumption) (by assumption) (by assumption)).symm)
  | (subst_vars; with_reducible exact (ar_copy_2 (by assumption) (by assumption) (by assumption) (by assumption) (by assumption)).symm)
  | (subst_vars; with_reducible exact (ar_copy_3 (by assumption) (by assumption) (by assumption) (by assumption) (by assumption) (by assumption)).symm)
  | (subst_vars; with_reducible exact (ar_copy_4 (by assumption) (by assumption) (by assumption) (by assumption) (by assumption) (by assumption) (by assumption)).symm)
  | exact (ar_copy_0 (Or.inl (by assumption))).symm
  | exact (ar_copy_0 (Or.inr (by assumption))).symm
  | exact (ar_copy_0 (by grind)).symm
  | (subst_vars; exact (ar_copy_1 (by assumption) (by assumption) (by assumption)).symm)
  | (subst_vars; exact (ar_copy_2 (by assumption) (by assumption) (by assumption) (by assumption) (by assumption)).symm)
  | (subst_vars; exact (ar_copy_3 (by assumption) (by assumption) (by assumption) (by assumption) (by assumption) (by assumption)).symm)
  | (subst_vars; exact (ar_copy_4 (by assumption) (by assumption) (by assumption) (by assumption) (by assumption) (by assumption) (by assumption)).symm)
theorem lf_X7_copy_2 {fl : Nat → Int32} {fe : Nat → Int32} {y0 : Nat} {y1 : Nat} {y2 : Nat} {y3 : Nat} {y4 : Nat} {y5 : Nat} {y6 : Nat} {y7 : Nat} {fi : Nat → Option Nat} {k1 : Int32} {k2 : Int32} {k3 : Int32} {k4 : Int32} {j_1 : Nat} (hfi : fi 0 = some y0 ∧ fi 1 = some y1 ∧ fi 2 = some y2 ∧ fi 3 = some y3 ∧ fi 4 = some y4 ∧ fi 5 = some y5 ∧ fi 6 = some y6 ∧ fi 7 = some y7) (hfe : ∀ jq : Nat, jq < 8 → ∃ q : Nat, q ≤ 40 ∧ fe jq = nI q) (hj_1 : j_1 < 8) (f_5_0_0 : (k2 < 0 ∨ 8 ≤ k2)) : (-1000001) = (ar_copy (abl fl) (abn fl fe) (nI j_1) k1 k2 k3 k4) := by
  first
  | with_reducible exact (ar_copy_0 (Or.inl (by assumption))).symm
  | with_reducible exact (ar_copy_0 (Or.inr (by assumption))).symm
  | ((with_reducible refine (ar_copy_0 ?_).symm); grind)
  | (subst_vars; with_reducible exact (ar_copy_1 (by assumption) (by assumption) (by assumption)).symm)
  | (subst_vars; with_reducible exact (ar_copy_2 (by assumption) (by assumption) (by assumption) (by assumption) (by assumption)).symm)
  | (subst_vars; with_reducible exact (ar_copy_3 (by assumption) (by assumption) (by assumption) (by assumption) (by assumption) (by assumption)).symm)
  | (subst_vars; with_reducible exact (ar_copy_4 (by assumption) (by assumption) (by assumption) (by assumption) (by assumption) (by assumption) (by assumption)).symm)
  | exact (ar_copy_0 (Or.inl (by assumption))).symm
  | exact (ar_copy_0 (Or.inr (by assumption))).symm
  | exact (ar_copy_0 (by grind)).symm
  | (subst_vars; exact (ar_copy_1 (by assumption) (by assumption) (by assumption)).symm)
  | (subst_vars; exact (ar_copy_2 (by assumption) (by assumption) (by assumption) (by assumption) (by assumption)).symm)
  | (subst_vars; exact (ar_copy_3 (by assumption) (by assumption) (by assumption) (by assumption) (by assumption) (by assumption)).symm)
  | (subst_vars; exact (ar_copy_4 (by assumption) (by assumption) (by assumption) (by assumption) (by assumption) (by assumption) (by assumption)).symm)
theorem lf_X7_copy_3 {fl : Nat → Int32} {fe : Nat → Int32} {y0 : Nat} {y1 : Nat} {y2 : Nat} {y3 : Nat} {y4 : Nat} {y5 : Nat} {y6 : Nat} {y7 : Nat} {fi : Nat → Option Nat} {k1 : Int32} {k3 : Int32} {k4 : Int32} {j_1 : Nat} {j_5 : Nat} {xgn_11 : Int32} {r_11 : Int32} (hfi : fi 0 = some y0 ∧ fi 1 = some y1 ∧ fi 2 = some y2 ∧ fi 3 = some y3 ∧ fi 4 = some y4 ∧ fi 5 = some y5 ∧ fi 6 = some y6 ∧ fi 7 = some y7) (hfe : ∀ jq : Nat, jq < 8 → ∃ q : Nat, q ≤ 40 ∧ fe jq = nI q) (hj_1 : j_1 < 8) (hj_5 : j_5 < 8) (f_9_0_0 : (fl j_1 = -1 ∨ fl j_5 = -1)) (hF_11_0 : (xgn_11 : Int32) = 1) (h_11 : r_11 = (-1000010 - 1)) : r_11 = (ar_copy (abl fl) (abn fl fe) (nI j_1) k1 (nI j_5) k3 k4) := by
  first
  | with_reducible exact (ar_copy_0 (Or.inl (by assumption))).symm
  | with_reducible exact (ar_copy_0 (Or.inr (by assumption))).symm
  | ((with_reducible refine (ar_copy_0 ?_).symm); grind)
  | (subst_vars; with_reducible exact (ar_copy_1 (by assumption) (by assumption) (by assumption)).symm)
  | (subst_vars; with_reducible exact (ar_copy_2 (by assumption) (by assumption) (by assumption) (by assumption) (by assumption)).symm)
  | (subst_vars; with_reducible exact (ar_copy_3 (by assumption) (by assumption) (by assumption) (by assumption) (by assumption) (by assumption)).symm)
  | (subst_vars; with_reducible exact (ar_copy_4 (by assumption) (by assumption) (by assumption) (by assumption) (by assumption) (by assumption) (by assumption)).symm)
  | exact (ar_copy_0 (Or.inl (by assumption))).symm
  | exact (ar_copy_0 (Or.inr (by assumption))).symm
  | exact (ar_copy_0 (by grind)).symm
  | (subst_vars; exact (ar_copy_1 (by assumption) (by assumption) (by assumption)).symm)
  | (subst_vars; exact (ar_copy_2 (by assumption) (by assumption) (by assumption) (by assumption) (by assumption)).symm)
  | (subst_vars; exact (ar_copy_3 (by assumption) (by assumption) (by assumption) (by assumption) (by assumption) (by assumption)).symm)
  | (subst_vars; exact (ar_copy_4 (by assumption) (by assumption) (by assumption) (by assumption) (by assumption) (by assumption) (by assumption)).symm)
theorem lf_X7_copy_4 {fl : Nat → Int32} {fe : Nat → Int32} {y0 : Nat} {y1 : Nat} {y2 : Nat} {y3 : Nat} {y4 : Nat} {y5 : Nat} {y6 : Nat} {y7 : Nat} {fi : Nat → Option Nat} {k1 : Int32} {k3 : Int32} {k4 : Int32} {j_1 : Nat} {j_5 : Nat} {xgn_13 : Int32} {r_13 : Int32} (hfi : fi 0 = some y0 ∧ fi 1 = some y1 ∧ fi 2 = some y2 ∧ fi 3 = some y3 ∧ fi 4 = some y4 ∧ fi 5 = some y5 ∧ fi 6 = some y6 ∧ fi 7 = some y7) (hfe : ∀ jq : Nat, jq < 8 → ∃ q : Nat, q ≤ 40 ∧ fe jq = nI q) (hj_1 : j_1 < 8) (hj_5 : j_5 < 8) (f_9_1_0 : ¬ fl j_1 = -1) (f_9_1_1 : ¬ fl j_5 = -1) (f_9_1_2 : ¬ fl j_1 = fl j_5) (hF_13_0 : (xgn_13 : Int32) = 5) (h_13 : r_13 = (-1000010 - 5)) : r_13 = (ar_copy (abl fl) (abn fl fe) (nI j_1) k1 (nI j_5) k3 k4) := by
  first
  | with_reducible exact (ar_copy_0 (Or.inl (by assumption))).symm
  | with_reducible exact (ar_copy_0 (Or.inr (by assumption))).symm
  | ((with_reducible refine (ar_copy_0 ?_).symm); grind)
  | (subst_vars; with_reducible exact (ar_copy_1 (by assumption) (by assumption) (by assumption)).symm)
  | (subst_vars; with_reducible exact (ar_copy_2 (by assumption) (by assumption) (by assumption) (by assumption) (by assumption)).symm)
  | (subst_vars; with_reducible exact (ar_copy_3 (by assumption) (by assumption) (by assumption) (by assumption) (by assumption) (by assumption)).symm)
  | (subst_vars; with_reducible exact (ar_copy_4 (by assumption) (by assumption) (by assumption) (by assumption) (by assumption) (by assumption) (by assumption)).symm)
  | exact (ar_copy_0 (Or.inl (by assumption))).symm
  | exact (ar_copy_0 (Or.inr (by assumption))).symm
  | exact (ar_copy_0 (by grind)).symm
  | (subst_vars; exact (ar_copy_1 (by assumption) (by assumption) (by assumption)).symm)
  | (subst_vars; exact (ar_copy_2 (by assumption) (by assumption) (by assumption) (by assumption) (by assumption)).symm)
  | (subst_vars; exact (ar_copy_3 (by assumption) (by assumption) (by assumption) (by assumption) (by assumption) (by assumption)).symm)
  | (subst_vars; exact (ar_copy_4 (by assumption) (by assumption) (by assumption) (by assumption) (by assumption) (by assumption) (by assumption)).symm)
theorem lf_X7_copy_5 {fl : Nat → Int32} {fe : Nat → Int32} {y0 : Nat} {y1 : Nat} {y2 : Nat} {y3 : Nat} {y4 : Nat} {y5 : Nat} {y6 : Nat} {y7 : Nat} {fi : Nat → Option Nat} {j_1 : Nat} {j_5 : Nat} {pa_14 : Nat} {pb_14 : Nat} {pa_15 : Nat} {pb_15 : Nat} {xgn_18 : Int32} {r_18 : Int32} (hfi : fi 0 = some y0 ∧ fi 1 = some y1 ∧ fi 2 = some y2 ∧ fi 3 = some y3 ∧ fi 4 = some y4 ∧ fi 5 = some y5 ∧ fi 6 = some y6 ∧ fi 7 = some y7) (hfe : ∀ jq : Nat, jq < 8 → ∃ q : Nat, q ≤ 40 ∧ fe jq = nI q) (hj_1 : j_1 < 8) (hj_5 : j_5 < 8) (f_9_2_0 : ¬ fl j_1 = -1) (f_9_2_1 : ¬ fl j_5 = -1) (f_9_2_2 : fl j_1 = fl j_5) (f_9_2_3 : plc (fe j_1) (nI pa_14) (nI pb_14)) (f_9_2_4 : plc (fe j_5) (nI pa_15) (nI pb_14)) (hab_14 : pa_14 + pb_14 ≤ 40) (hab_15 : pa_15 + pb_15 ≤ 40) (eb_15 : pb_14 = pb_15) (hF_18_0 : (xgn_18 : Int32) = 0) (h_18 : r_18 = (nI pb_14)) : r_18 = (ar_copy (abl fl) (abn fl fe) (nI j_1) (nI pa_14) (nI j_5) (nI pa_15) (nI pb_14)) := by
  first
  | with_reducible exact (ar_copy_0 (Or.inl (by assumption))).symm
  | with_reducible exact (ar_copy_0 (Or.inr (by assumption))).symm
  | ((with_reducible refine (ar_copy_0 ?_).symm); grind)
  | (subst_vars; with_reducible exact (ar_copy_1 (by assumption) (by assumption) (by assumption)).symm)
  | (subst_vars; with_reducible exact (ar_copy_2 (by assumption) (by assumption) (by assumption) (by assumption) (by assumption)).symm)
  | (subst_vars; with_reducible exact (ar_copy_3 (by assumption) (by assumption) (by assumption) (by assumption) (by assumption) (by assumption)).symm)
  | (subst_vars; with_reducible exact (ar_copy_4 (by assumption) (by assumption) (by assumption) (by assumption) (by assumption) (by assumption) (by assumption)).symm)
  | exact (ar_copy_0 (Or.inl (by assumption))).symm
  | exact (ar_copy_0 (Or.inr (by assumption))).symm
  | exact (ar_copy_0 (by grind)).symm
  | (subst_vars; exact (ar_copy_1 (by assumption) (by assumption) (by assumption)).symm)
  | (subst_vars; exact (ar_copy_2 (by assumption) (by assumption) (by assumption) (by assumption) (by assumption)).symm)
  | (subst_vars; exact (ar_copy_3 (by assumption) (by assumption) (by assumption) (by assumption) (by assumption) (by assumption)).symm)
  | (subst_vars; exact (ar_copy_4 (by assumption) (by assumption) (by assumption) (by assumption) (by assumption) (by assumption) (by assumption)).symm)
theorem lf_X7_copy_6 {fl : Nat → Int32} {fe : Nat → Int32} {y0 : Nat} {y1 : Nat} {y2 : Nat} {y3 : Nat} {y4 : Nat} {y5 : Nat} {y6 : Nat} {y7 : Nat} {fi : Nat → Option Nat} {k1 : Int32} {k3 : Int32} {k4 : Int32} {j_1 : Nat} {j_5 : Nat} {xgn_20 : Int32} {r_20 : Int32} (hfi : fi 0 = some y0 ∧ fi 1 = some y1 ∧ fi 2 = some y2 ∧ fi 3 = some y3 ∧ fi 4 = some y4 ∧ fi 5 = some y5 ∧ fi 6 = some y6 ∧ fi 7 = some y7) (hfe : ∀ jq : Nat, jq < 8 → ∃ q : Nat, q ≤ 40 ∧ fe jq = nI q) (hj_1 : j_1 < 8) (hj_5 : j_5 < 8) (f_9_3_0 : ¬ fl j_1 = -1) (f_9_3_1 : ¬ fl j_5 = -1) (f_9_3_2 : fl j_1 = fl j_5) (f_9_3_3 : (¬ plc (fe j_1) k1 k4 ∨ ¬ plc (fe j_5) k3 k4)) (hF_20_0 : (xgn_20 : Int32) = 2) (h_20 : r_20 = (-1000010 - 2)) : r_20 = (ar_copy (abl fl) (abn fl fe) (nI j_1) k1 (nI j_5) k3 k4) := by
  first
  | with_reducible exact (ar_copy_0 (Or.inl (by assumption))).symm
  | with_reducible exact (ar_copy_0 (Or.inr (by assumption))).symm
  | ((with_reducible refine (ar_copy_0 ?_).symm); grind)
  | (subst_vars; with_reducible exact (ar_copy_1 (by assumption) (by assumption) (by assumption)).symm)
  | (subst_vars; with_reducible exact (ar_copy_2 (by assumption) (by assumption) (by assumption) (by assumption) (by assumption)).symm)
  | (subst_vars; with_reducible exact (ar_copy_3 (by assumption) (by assumption) (by assumption) (by assumption) (by assumption) (by assumption)).symm)
  | (subst_vars; with_reducible exact (ar_copy_4 (by assumption) (by assumption) (by assumption) (by assumption) (by assumption) (by assumption) (by assumption)).symm)
  | exact (ar_copy_0 (Or.inl (by assumption))).symm
  | exact (ar_copy_0 (Or.inr (by assumption))).symm
  | exact (ar_copy_0 (by grind)).symm
  | (subst_vars; exact (ar_copy_1 (by assumption) (by assumption) (by assumption)).symm)
  | (subst_vars; exact (ar_copy_2 (by assumption) (by assumption) (by assumption) (by assumption) (by assumption)).symm)
  | (subst_vars; exact (ar_copy_3 (by assumption) (by assumption) (by assumption) (by assumption) (by assumption) (by assumption)).symm)
  | (subst_vars; exact (ar_copy_4 (by assumption) (by assumption) (by assumption) (by assumption) (by assumption) (by assumption) (by assumption)).symm)
set_option maxHeartbeats 4000000 in
set_option maxRecDepth 100000 in
theorem r_X7_copy (l : Launch) (dC : Nat → ClassId) (dI : Nat → Nat → Nat) (cI cZ cL cJ : ClassId) (sz : Nat) (x : Nat) (ro : Nat) (ta : Nat) (no : Nat) (ac : Nat) (im : Nat) (tr : Nat) (pl : Nat) (cs : Nat) (ak : Nat) (xf : Int32) (xg : Int32) (it : Nat) (la : Nat) (le : Nat) (fl : Nat → Int32) (fe : Nat → Int32) (y0 : Nat) (y1 : Nat) (y2 : Nat) (y3 : Nat) (y4 : Nat) (y5 : Nat) (y6 : Nat) (y7 : Nat) (f0 : Nat → Int32) (f1 : Nat → Int32) (f2 : Nat → Int32) (f3 : Nat → Int32) (f4 : Nat → Int32) (f5 : Nat → Int32) (f6 : Nat → Int32) (f7 : Nat → Int32) (fi : Nat → Option Nat) (k0 : Int32) (k1 : Int32) (k2 : Int32) (k3 : Int32) (k4 : Int32) (hfi : fi 0 = some y0 ∧ fi 1 = some y1 ∧ fi 2 = some y2 ∧ fi 3 = some y3 ∧ fi 4 = some y4 ∧ fi 5 = some y5 ∧ fi 6 = some y6 ∧ fi 7 = some y7) (hfe : ∀ jq : Nat, jq < 8 → ∃ q : Nat, q ≤ 40 ∧ fe jq = nI q) : Met l yX7_copy wsX7_copy ({ frames := 2, cells := 0, slots := 0, locals := 105 }) (va_Pc [.ref x, .int k0, .int k1, .int k2, .int k3, .int k4] (fun U => U.heap.size = sz ∧ va_P (dC, dI) vwCl [(xo_7_rrrrrrrrrii x ro ta no ac im tr pl cs ak xf xg), (xo_5_rrr ro it la le), (xI la cI 8 fl), (xI le cI 8 fe), (xJ it cJ 8 fi), (xI y0 cI 40 f0), (xI y1 cI 40 f1), (xI y2 cI 40 f2), (xI y3 cI 40 f3), (xI y4 cI 40 f4), (xI y5 cI 40 f5), (xI y6 cI 40 f6), (xI y7 cI 40 f7)] U.heap ∧ va_K (dC, dI) vwCl [(cI, .int), (cZ, .boolean), (cL, .object RX3), (cJ, .array .int)] U ∧ va_D (fun _ => True) [(xo_7_rrrrrrrrrii x ro ta no ac im tr pl cs ak xf xg), (xo_5_rrr ro it la le), (xI la cI 8 fl), (xI le cI 8 fe), (xJ it cJ 8 fi), (xI y0 cI 40 f0), (xI y1 cI 40 f1), (xI y2 cI 40 f2), (xI y3 cI 40 f3), (xI y4 cI 40 f4), (xI y5 cI 40 f5), (xI y6 cI 40 f6), (xI y7 cI 40 f7)])) (va_Qi (fun r (_ : Unit) => r = (ar_copy (abl fl) (abn fl fe) k0 k1 k2 k3 k4)) (fun (_ : Unit) t => ∃ (f0n : Nat → Int32) (f1n : Nat → Int32) (f2n : Nat → Int32) (f3n : Nat → Int32) (f4n : Nat → Int32) (f5n : Nat → Int32) (f6n : Nat → Int32) (f7n : Nat → Int32) (xgn : Int32), va_P (dC, dI) vwCl [(xo_7_rrrrrrrrrii x ro ta no ac im tr pl cs ak xf xgn), (xo_5_rrr ro it la le), (xI la cI 8 fl), (xI le cI 8 fe), (xJ it cJ 8 fi), (xI y0 cI 40 f0n), (xI y1 cI 40 f1n), (xI y2 cI 40 f2n), (xI y3 cI 40 f3n), (xI y4 cI 40 f4n), (xI y5 cI 40 f5n), (xI y6 cI 40 f6n), (xI y7 cI 40 f7n)] t.heap ∧ va_D (va_A [(xo_7_rrrrrrrrrii x ro ta no ac im tr pl cs ak xf xg), (xo_5_rrr ro it la le), (xI la cI 8 fl), (xI le cI 8 fe), (xJ it cJ 8 fi), (xI y0 cI 40 f0), (xI y1 cI 40 f1), (xI y2 cI 40 f2), (xI y3 cI 40 f3), (xI y4 cI 40 f4), (xI y5 cI 40 f5), (xI y6 cI 40 f6), (xI y7 cI 40 f7)] sz) [(xo_7_rrrrrrrrrii x ro ta no ac im tr pl cs ak xf xgn), (xo_5_rrr ro it la le), (xI la cI 8 fl), (xI le cI 8 fe), (xJ it cJ 8 fi), (xI y0 cI 40 f0n), (xI y1 cI 40 f1n), (xI y2 cI 40 f2n), (xI y3 cI 40 f3n), (xI y4 cI 40 f4n), (xI y5 cI 40 f5n), (xI y6 cI 40 f6n), (xI y7 cI 40 f7n)]) (va_A [(xo_7_rrrrrrrrrii x ro ta no ac im tr pl cs ak xf xg), (xo_5_rrr ro it la le), (xI la cI 8 fl), (xI le cI 8 fe), (xJ it cJ 8 fi), (xI y0 cI 40 f0), (xI y1 cI 40 f1), (xI y2 cI 40 f2), (xI y3 cI 40 f3), (xI y4 cI 40 f4), (xI y5 cI 40 f5), (xI y6 cI 40 f6), (xI y7 cI 40 f7)] sz)) 0 0 (va_A [(xo_7_rrrrrrrrrii x ro ta no ac im tr pl cs ak xf xg), (xo_5_rrr ro it la le), (xI la cI 8 fl), (xI le cI 8 fe), (xJ it cJ 8 fi), (xI y0 cI 40 f0), (xI y1 cI 40 f1), (xI y2 cI 40 f2), (xI y3 cI 40 f3), (xI y4 cI 40 f4), (xI y5 cI 40 f5), (xI y6 cI 40 f6), (xI y7 cI 40 f7)] sz) := by
  refine Met.ofW (cc := cX7_copy) (maxL := 7) (ret := (some .int)) (by decide) rfl ?_
  intro p e s m args below meth c s₁ B hml hv
  obtain ⟨rfl, hsz, hP, hK, hD0⟩ := hv
  have hx := B.exec
  have hb := B.bytes
  have hr := B.returns
  have hts := atoms_spec (ws := wsX7_copy) B.pre
  have hown : s.vm.findClass RX7 = some m.cls := findClass_of_methodNamed B.named
  have hlocks := B.notSynchronized
  subst hsz
  have hD := hD0.self (sz := s.heap.size)
  generalize hAe : va_A [(xo_7_rrrrrrrrrii x ro ta no ac im tr pl cs ak xf xg), (xo_5_rrr ro it la le), (xI la cI 8 fl), (xI le cI 8 fe), (xJ it cJ 8 fi), (xI y0 cI 40 f0), (xI y1 cI 40 f1), (xI y2 cI 40 f2), (xI y3 cI 40 f3), (xI y4 cI 40 f4), (xI y5 cI 40 f5), (xI y6 cI 40 f6), (xI y7 cI 40 f7)] s.heap.size = A at hD ⊢
  have hA : ∀ q : Nat, s.heap.size ≤ q → A q := fun q h => by rw [← hAe]; exact Or.inr h
  have hS : va_S A s.heap s.heap [] := va_S.rf
  have hP : va_P (dC, dI) vwCl [(xo_7_rrrrrrrrrii x ro ta no ac im tr pl cs ak xf xg), (xo_5_rrr ro it la le), (xI la cI 8 fl), (xI le cI 8 fe), (xJ it cJ 8 fi), (xI y0 cI 40 f0), (xI y1 cI 40 f1), (xI y2 cI 40 f2), (xI y3 cI 40 f3), (xI y4 cI 40 f4), (xI y5 cI 40 f5), (xI y6 cI 40 f6), (xI y7 cI 40 f7)] s.heap := hP
  have hl := lv_entry ([.ref x, .int k0, .int k1, .int k2, .int k3, .int k4]) (n := 7) (Nat.le_of_ble_eq_true rfl)
  rw [lg_entry_eq]
  generalize (lg_sl ([.ref x, .int k0, .int k1, .int k2, .int k3, .int k4]) ++ List.replicate (7 - (lg_sl ([.ref x, .int k0, .int k1, .int k2, .int k3, .int k4])).length) Slot.unset).toArray = ls at hl ⊢
  have hl : lv_has ls 7 [(0, .ref x), (1, .int k0), (2, .int k1), (3, .int k2), (4, .int k3), (5, .int k4)] := hl
  refine lv_iload_n hx hb dX7_copy_0 rfl (lv_at hl 1 rfl) ?_
  have hPc_1 := hP.sub (ws' := []) [] rfl
  refine vp_callSi (W.runS (As := [.int k0]) (rest := []) ⟨hx, hb, hml, hown, hts⟩ (r_X5_isRow l dC dI cI cZ cL cJ k0 ) (va_cwS 1 hts gX7_copy_X5_isRow rfl rfl rfl (by decide +kernel) ⟨Nat.le_of_ble_eq_true rfl, Nat.le_of_ble_eq_true rfl⟩) (psP hK hPc_1) rfl rfl hl.1 rfl (lv_room (Nat.le_of_ble_eq_true rfl)) dX7_copy_1 ⟨Nat.le_of_ble_eq_true rfl, Nat.le_of_ble_eq_true rfl⟩) (fun r_1 h_1 => ?_)
  rcases h_1 with ⟨h_1, f_1_0_0⟩ | ⟨h_1, f_1_1_0⟩
  · subst h_1
    refine lv_if_eq (tgt := 14) hx hb dX7_copy_4 (by decide) (fun _ => ?_) (fun c_ => absurd (by decide) c_)
    refine lv_ldc (own := RX7) (v := (-1000001)) hx hb hown (hts _ mx_X7_copy_1) dX7_copy_14 ?_
    have hX9 := cut2 (wc := [(xo_7_rrrrrrrrrii x ro ta no ac im tr pl cs ak xf xg), (xo_5_rrr ro it la le), (xI la cI 8 fl), (xI le cI 8 fe), (xJ it cJ 8 fi), (xI y0 cI 40 f0), (xI y1 cI 40 f1), (xI y2 cI 40 f2), (xI y3 cI 40 f3), (xI y4 cI 40 f4), (xI y5 cI 40 f5), (xI y6 cI 40 f6), (xI y7 cI 40 f7)]) hP hD [0, 1, 2, 3, 4, 5, 6, 7, 8, 9, 10, 11, 12] (by decide +kernel) rfl
    exact W.iret (v := (-1000001)) hx hb hr (fun t ht hW => ⟨⟨(-1000001), (), rfl, (lf_X7_copy_1 hfi hfe f_1_0_0), ⟨f0, f1, f2, f3, f4, f5, f6, f7, xg, va_Ht ht hX9.1, hX9.2⟩⟩, hS.F ht⟩) hS.2.2 dX7_copy_16
  · subst h_1
    obtain ⟨j_1, hj_1, rfl⟩ := vp_in_of f_1_1_0 (by omega)
    refine lv_if_eq (tgt := 14) hx hb dX7_copy_4 (by decide) (fun c_ => absurd c_ (by decide)) (fun _ => ?_)
    refine lv_iload_n hx hb dX7_copy_7 rfl (lv_at hl 3 rfl) ?_
    have hPc_5 := hP.sub (ws' := []) [] rfl
    refine vp_callSi (W.runS (As := [.int k2]) (rest := []) ⟨hx, hb, hml, hown, hts⟩ (r_X5_isRow l dC dI cI cZ cL cJ k2 ) (va_cwS 1 hts gX7_copy_X5_isRow rfl rfl rfl (by decide +kernel) ⟨Nat.le_of_ble_eq_true rfl, Nat.le_of_ble_eq_true rfl⟩) (psP hK hPc_5) rfl rfl hl.1 rfl (lv_room (Nat.le_of_ble_eq_true rfl)) dX7_copy_8 ⟨Nat.le_of_ble_eq_true rfl, Nat.le_of_ble_eq_true rfl⟩) (fun r_5 h_5 => ?_)
    rcases h_5 with ⟨h_5, f_5_0_0⟩ | ⟨h_5, f_5_1_0⟩
    · subst h_5
      refine lv_if_ne (tgt := 17) hx hb dX7_copy_11 (by decide) (fun c_ => absurd (by decide) c_) (fun _ => ?_)
      refine lv_ldc (own := RX7) (v := (-1000001)) hx hb hown (hts _ mx_X7_copy_1) dX7_copy_14 ?_
      have hX9 := cut2 (wc := [(xo_7_rrrrrrrrrii x ro ta no ac im tr pl cs ak xf xg), (xo_5_rrr ro it la le), (xI la cI 8 fl), (xI le cI 8 fe), (xJ it cJ 8 fi), (xI y0 cI 40 f0), (xI y1 cI 40 f1), (xI y2 cI 40 f2), (xI y3 cI 40 f3), (xI y4 cI 40 f4), (xI y5 cI 40 f5), (xI y6 cI 40 f6), (xI y7 cI 40 f7)]) hP hD [0, 1, 2, 3, 4, 5, 6, 7, 8, 9, 10, 11, 12] (by decide +kernel) rfl
      exact W.iret (v := (-1000001)) hx hb hr (fun t ht hW => ⟨⟨(-1000001), (), rfl, (lf_X7_copy_2 hfi hfe hj_1 f_5_0_0), ⟨f0, f1, f2, f3, f4, f5, f6, f7, xg, va_Ht ht hX9.1, hX9.2⟩⟩, hS.F ht⟩) hS.2.2 dX7_copy_16
    · subst h_5
      obtain ⟨j_5, hj_5, rfl⟩ := vp_in_of f_5_1_0 (by omega)
      refine lv_if_ne (tgt := 17) hx hb dX7_copy_11 (by decide) (fun _ => ?_) (fun c_ => absurd c_ (by decide))
      refine lv_aload_n hx hb dX7_copy_17 rfl (lv_at hl 0 rfl) ?_
      refine va_get (D := (dC, dI)) (ci := 7) (v := .ref ro) (C := RX7) (T := TX7) (N := 11) hx hb hts i_X7_copy_X7 hown hK hP 0 rfl rfl 0 (by decide) (hts _ mx_X7_copy_2) (fun _ h9 => h9) rfl dX7_copy_18 ?_
      refine lv_iload_n hx hb dX7_copy_21 rfl (lv_at hl 1 rfl) ?_
      refine lv_iload_n hx hb dX7_copy_22 rfl (lv_at hl 2 rfl) ?_
      refine lv_iload_n hx hb dX7_copy_23 rfl (lv_at hl 3 rfl) ?_
      refine lv_iload hx hb dX7_copy_24 (lv_at hl 4 rfl) ?_
      refine lv_iload hx hb dX7_copy_26 (lv_at hl 5 rfl) ?_
      have hPc_9 := hP.sub (ws' := [(xo_5_rrr ro it la le), (xI la cI 8 fl), (xI le cI 8 fe)]) [1, 2, 3] rfl
      refine vp_callSi (W.runV (As := [.int (nI j_1), .int k1, .int (nI j_5), .int k3, .int k4]) (rest := []) ⟨hx, hb, hml, hown, hts⟩ (r_X5_findingOfMove l dC dI cI cZ cL cJ ro it la le fl fe j_1 j_5 k1 k3 k4 (hfe) (by omega) (by omega)) (cwV 5 hts gX7_copy_X5_findingOfMove rfl rfl rfl (by decide +kernel) ⟨Nat.le_of_ble_eq_true rfl, Nat.le_of_ble_eq_true rfl⟩) (pvP 5 1 hK hP rfl rfl hPc_9) rfl rfl hl.1 rfl (lv_room (Nat.le_of_ble_eq_true rfl)) dX7_copy_28 ⟨Nat.le_of_ble_eq_true rfl, Nat.le_of_ble_eq_true rfl⟩) (fun r_9 h_9 => ?_)
      rcases h_9 with ⟨h_9, f_9_0_0⟩ | ⟨h_9, f_9_1_0, f_9_1_1, f_9_1_2⟩ | ⟨h_9, f_9_2_0, f_9_2_1, f_9_2_2, f_9_2_3, f_9_2_4, f_9_2_5, f_9_2_6⟩ | ⟨h_9, f_9_3_0, f_9_3_1, f_9_3_2, f_9_3_3⟩
      · subst h_9
        refine lv_istore (lv' := [(6, .int 1), (0, .ref x), (1, .int (nI j_1)), (2, .int k1), (3, .int (nI j_5)), (4, .int k3), (5, .int k4)]) hx hb dX7_copy_31 hl (by decide) rfl (fun ls hl => ?_)
        refine lv_iload hx hb dX7_copy_33 (lv_at hl 0 rfl) ?_
        refine lv_if_eq (tgt := 45) hx hb dX7_copy_35 (by decide) (fun c_ => absurd c_ (by decide)) (fun _ => ?_)
        refine lv_aload_n hx hb dX7_copy_38 rfl (lv_at hl 1 rfl) ?_
        refine lv_iload hx hb dX7_copy_39 (lv_at hl 0 rfl) ?_
        have hc_11 := cutW (wc := [(xo_7_rrrrrrrrrii x ro ta no ac im tr pl cs ak xf xg)]) hP hD hS hA [0] (by decide +kernel) rfl
        refine va_calli (va_runV (As := [.int 1]) (rest := []) ⟨hx, hb, hml, hown, hts⟩ (r_X7_found l dC dI cI cZ cL cJ s.heap.size x ro ta no ac im tr pl cs ak xf xg 1 ) (cwV 1 hts gX7_copy_X7_found rfl rfl rfl (by decide +kernel) ⟨Nat.le_of_ble_eq_true rfl, Nat.le_of_ble_eq_true rfl⟩) (pvW 7 0 hK hP rfl rfl hc_11) rfl rfl hl.1 rfl (lv_room (Nat.le_of_ble_eq_true rfl)) dX7_copy_41 ⟨Nat.le_of_ble_eq_true rfl, Nat.le_of_ble_eq_true rfl⟩) hS (fun q _ h => hc_11.2.2 q h) hc_11.2.2 (fun r_11 u_11 t_11 H1 locs ht hvm h_11 hB hz1 hk1 hS => ?_)
        refine xl_1_3 hB (fun xgn_11 hP1 hD1 hF_11_0 => ?_)
        clear hB
        rw [ht] at hP1
        obtain ⟨hP, hD⟩ := va_join (wr := [(xo_5_rrr ro it la le), (xI la cI 8 fl), (xI le cI 8 fe), (xJ it cJ 8 fi), (xI y0 cI 40 f0), (xI y1 cI 40 f1), (xI y2 cI 40 f2), (xI y3 cI 40 f3), (xI y4 cI 40 f4), (xI y5 cI 40 f5), (xI y6 cI 40 f6), (xI y7 cI 40 f7)]) (w1 := [(xo_7_rrrrrrrrrii x ro ta no ac im tr pl cs ak xf xgn_11)]) hP hD [0] [1, 2, 3, 4, 5, 6, 7, 8, 9, 10, 11, 12] rfl rfl (by decide +kernel) (by decide +kernel) hk1 hc_11.2.2 hP1 hD1
        generalize H1 = H at hP hS ⊢
        have hP : va_P (dC, dI) vwCl [(xo_5_rrr ro it la le), (xI la cI 8 fl), (xI le cI 8 fe), (xJ it cJ 8 fi), (xI y0 cI 40 f0), (xI y1 cI 40 f1), (xI y2 cI 40 f2), (xI y3 cI 40 f3), (xI y4 cI 40 f4), (xI y5 cI 40 f5), (xI y6 cI 40 f6), (xI y7 cI 40 f7), (xo_7_rrrrrrrrrii x ro ta no ac im tr pl cs ak xf xgn_11)] H := hP
        have hD := dto hP hD
        have hX9 := cut2 (wc := [(xo_7_rrrrrrrrrii x ro ta no ac im tr pl cs ak xf xgn_11), (xo_5_rrr ro it la le), (xI la cI 8 fl), (xI le cI 8 fe), (xJ it cJ 8 fi), (xI y0 cI 40 f0), (xI y1 cI 40 f1), (xI y2 cI 40 f2), (xI y3 cI 40 f3), (xI y4 cI 40 f4), (xI y5 cI 40 f5), (xI y6 cI 40 f6), (xI y7 cI 40 f7)]) hP hD [12, 0, 1, 2, 3, 4, 5, 6, 7, 8, 9, 10, 11] (by decide +kernel) rfl
        exact W.iret (v := r_11) hx hb hr (fun t ht hW => ⟨⟨r_11, (), rfl, (lf_X7_copy_3 hfi hfe hj_1 hj_5 f_9_0_0 hF_11_0 h_11), ⟨f0, f1, f2, f3, f4, f5, f6, f7, xgn_11, va_Ht ht hX9.1, hX9.2⟩⟩, hS.F ht⟩) hS.2.2 dX7_copy_44
      · subst h_9
        refine lv_istore (lv' := [(6, .int 5), (0, .ref x), (1, .int (nI j_1)), (2, .int k1), (3, .int (nI j_5)), (4, .int k3), (5, .int k4)]) hx hb dX7_copy_31 hl (by decide) rfl (fun ls hl => ?_)
        refine lv_iload hx hb dX7_copy_33 (lv_at hl 0 rfl) ?_
        refine lv_if_eq (tgt := 45) hx hb dX7_copy_35 (by decide) (fun c_ => absurd c_ (by decide)) (fun _ => ?_)
        refine lv_aload_n hx hb dX7_copy_38 rfl (lv_at hl 1 rfl) ?_
        refine lv_iload hx hb dX7_copy_39 (lv_at hl 0 rfl) ?_
        have hc_13 := cutW (wc := [(xo_7_rrrrrrrrrii x ro ta no ac im tr pl cs ak xf xg)]) hP hD hS hA [0] (by decide +kernel) rfl
        refine va_calli (va_runV (As := [.int 5]) (rest := []) ⟨hx, hb, hml, hown, hts⟩ (r_X7_found l dC dI cI cZ cL cJ s.heap.size x ro ta no ac im tr pl cs ak xf xg 5 ) (cwV 1 hts gX7_copy_X7_found rfl rfl rfl (by decide +kernel) ⟨Nat.le_of_ble_eq_true rfl, Nat.le_of_ble_eq_true rfl⟩) (pvW 7 0 hK hP rfl rfl hc_13) rfl rfl hl.1 rfl (lv_room (Nat.le_of_ble_eq_true rfl)) dX7_copy_41 ⟨Nat.le_of_ble_eq_true rfl, Nat.le_of_ble_eq_true rfl⟩) hS (fun q _ h => hc_13.2.2 q h) hc_13.2.2 (fun r_13 u_13 t_13 H1 locs ht hvm h_13 hB hz1 hk1 hS => ?_)
        refine xl_1_3 hB (fun xgn_13 hP1 hD1 hF_13_0 => ?_)
        clear hB
        rw [ht] at hP1
        obtain ⟨hP, hD⟩ := va_join (wr := [(xo_5_rrr ro it la le), (xI la cI 8 fl), (xI le cI 8 fe), (xJ it cJ 8 fi), (xI y0 cI 40 f0), (xI y1 cI 40 f1), (xI y2 cI 40 f2), (xI y3 cI 40 f3), (xI y4 cI 40 f4), (xI y5 cI 40 f5), (xI y6 cI 40 f6), (xI y7 cI 40 f7)]) (w1 := [(xo_7_rrrrrrrrrii x ro ta no ac im tr pl cs ak xf xgn_13)]) hP hD [0] [1, 2, 3, 4, 5, 6, 7, 8, 9, 10, 11, 12] rfl rfl (by decide +kernel) (by decide +kernel) hk1 hc_13.2.2 hP1 hD1
        generalize H1 = H at hP hS ⊢
        have hP : va_P (dC, dI) vwCl [(xo_5_rrr ro it la le), (xI la cI 8 fl), (xI le cI 8 fe), (xJ it cJ 8 fi), (xI y0 cI 40 f0), (xI y1 cI 40 f1), (xI y2 cI 40 f2), (xI y3 cI 40 f3), (xI y4 cI 40 f4), (xI y5 cI 40 f5), (xI y6 cI 40 f6), (xI y7 cI 40 f7), (xo_7_rrrrrrrrrii x ro ta no ac im tr pl cs ak xf xgn_13)] H := hP
        have hD := dto hP hD
        have hX9 := cut2 (wc := [(xo_7_rrrrrrrrrii x ro ta no ac im tr pl cs ak xf xgn_13), (xo_5_rrr ro it la le), (xI la cI 8 fl), (xI le cI 8 fe), (xJ it cJ 8 fi), (xI y0 cI 40 f0), (xI y1 cI 40 f1), (xI y2 cI 40 f2), (xI y3 cI 40 f3), (xI y4 cI 40 f4), (xI y5 cI 40 f5), (xI y6 cI 40 f6), (xI y7 cI 40 f7)]) hP hD [12, 0, 1, 2, 3, 4, 5, 6, 7, 8, 9, 10, 11] (by decide +kernel) rfl
        exact W.iret (v := r_13) hx hb hr (fun t ht hW => ⟨⟨r_13, (), rfl, (lf_X7_copy_4 hfi hfe hj_1 hj_5 f_9_1_0 f_9_1_1 f_9_1_2 hF_13_0 h_13), ⟨f0, f1, f2, f3, f4, f5, f6, f7, xgn_13, va_Ht ht hX9.1, hX9.2⟩⟩, hS.F ht⟩) hS.2.2 dX7_copy_44
      · subst h_9
        obtain ⟨pa_14, pb_14, ea_14, eb_14, hab_14⟩ := f_9_2_5
        subst ea_14
        subst eb_14
        obtain ⟨pa_15, pb_15, ea_15, eb_15, hab_15⟩ := f_9_2_6
        subst ea_15
        have eb_15 : pb_14 = pb_15 := nI_inj eb_15 (by omega) (by omega)
        refine lv_istore (lv' := [(6, .int 0), (0, .ref x), (1, .int (nI j_1)), (2, .int (nI pa_14)), (3, .int (nI j_5)), (4, .int (nI pa_15)), (5, .int (nI pb_14))]) hx hb dX7_copy_31 hl (by decide) rfl (fun ls hl => ?_)
        refine lv_iload hx hb dX7_copy_33 (lv_at hl 0 rfl) ?_
        refine lv_if_eq (tgt := 45) hx hb dX7_copy_35 (by decide) (fun _ => ?_) (fun c_ => absurd (by decide) c_)
        refine lv_aload_n hx hb dX7_copy_45 rfl (lv_at hl 1 rfl) ?_
        refine va_get (D := (dC, dI)) (ci := 7) (v := .ref ro) (C := RX7) (T := TX7) (N := 11) hx hb hts i_X7_copy_X7 hown hK hP 0 rfl rfl 0 (by decide) (hts _ mx_X7_copy_2) (fun _ h9 => h9) rfl dX7_copy_46 ?_
        refine lv_iload_n hx hb dX7_copy_49 rfl (lv_at hl 2 rfl) ?_
        refine lv_iload_n hx hb dX7_copy_50 rfl (lv_at hl 3 rfl) ?_
        refine lv_iload_n hx hb dX7_copy_51 rfl (lv_at hl 4 rfl) ?_
        refine lv_iload hx hb dX7_copy_52 (lv_at hl 5 rfl) ?_
        refine lv_iload hx hb dX7_copy_54 (lv_at hl 6 rfl) ?_
        have hc_17 := cutW (wc := [(xo_5_rrr ro it la le), (xJ it cJ 8 fi), (xI y0 cI 40 f0), (xI y1 cI 40 f1), (xI y2 cI 40 f2), (xI y3 cI 40 f3), (xI y4 cI 40 f4), (xI y5 cI 40 f5), (xI y6 cI 40 f6), (xI y7 cI 40 f7)]) hP hD hS hA [1, 4, 5, 6, 7, 8, 9, 10, 11, 12] (by decide +kernel) rfl
        refine va_callv (va_runV (As := [.int (nI j_1), .int (nI pa_14), .int (nI j_5), .int (nI pa_15), .int (nI pb_14)]) (rest := []) ⟨hx, hb, hml, hown, hts⟩ (r_X5_move l dC dI cI cZ cL cJ s.heap.size ro it la le fl fe y0 y1 y2 y3 y4 y5 y6 y7 f0 f1 f2 f3 f4 f5 f6 f7 fi j_1 pa_14 j_5 pa_15 pb_14 (hfi) (by omega) (by omega) (by omega) (by omega)) (cwV 5 hts gX7_copy_X5_move rfl rfl rfl (by decide +kernel) ⟨Nat.le_of_ble_eq_true rfl, Nat.le_of_ble_eq_true rfl⟩) (pvW 5 1 hK hP rfl rfl hc_17) rfl rfl hl.1 rfl (lv_room (Nat.le_of_ble_eq_true rfl)) dX7_copy_56 ⟨Nat.le_of_ble_eq_true rfl, Nat.le_of_ble_eq_true rfl⟩) hS (fun q _ h => hc_17.2.2 q h) hc_17.2.2 (fun u_17 t_17 H1 locs ht hvm h_17 hB hz1 hk1 hS => ?_)
        refine xl_8_2 hB (fun f0n_17 f1n_17 f2n_17 f3n_17 f4n_17 f5n_17 f6n_17 f7n_17 hP1 hD1 => ?_)
        clear hB
        rw [ht] at hP1
        obtain ⟨hP, hD⟩ := va_join (wr := [(xo_7_rrrrrrrrrii x ro ta no ac im tr pl cs ak xf xg), (xI la cI 8 fl), (xI le cI 8 fe)]) (w1 := [(xo_5_rrr ro it la le), (xJ it cJ 8 fi), (xI y0 cI 40 f0n_17), (xI y1 cI 40 f1n_17), (xI y2 cI 40 f2n_17), (xI y3 cI 40 f3n_17), (xI y4 cI 40 f4n_17), (xI y5 cI 40 f5n_17), (xI y6 cI 40 f6n_17), (xI y7 cI 40 f7n_17)]) hP hD [1, 4, 5, 6, 7, 8, 9, 10, 11, 12] [0, 2, 3] rfl rfl (by decide +kernel) (by decide +kernel) hk1 hc_17.2.2 hP1 hD1
        generalize H1 = H at hP hS ⊢
        have hP : va_P (dC, dI) vwCl [(xo_7_rrrrrrrrrii x ro ta no ac im tr pl cs ak xf xg), (xI la cI 8 fl), (xI le cI 8 fe), (xo_5_rrr ro it la le), (xJ it cJ 8 fi), (xI y0 cI 40 f0n_17), (xI y1 cI 40 f1n_17), (xI y2 cI 40 f2n_17), (xI y3 cI 40 f3n_17), (xI y4 cI 40 f4n_17), (xI y5 cI 40 f5n_17), (xI y6 cI 40 f6n_17), (xI y7 cI 40 f7n_17)] H := hP
        have hD := dto hP hD
        refine lv_aload_n hx hb dX7_copy_59 rfl (lv_at hl 1 rfl) ?_
        refine lv_iload hx hb dX7_copy_60 (lv_at hl 6 rfl) ?_
        have hc_18 := cutW (wc := [(xo_7_rrrrrrrrrii x ro ta no ac im tr pl cs ak xf xg)]) hP hD hS hA [0] (by decide +kernel) rfl
        refine va_calli (va_runV (As := [.int (nI pb_14)]) (rest := []) ⟨hx, hb, hml, hown, hts⟩ (r_X7_foundNothing l dC dI cI cZ cL cJ H.size x ro ta no ac im tr pl cs ak xf xg (nI pb_14) ) (cwV 1 hts gX7_copy_X7_foundNothing rfl rfl rfl (by decide +kernel) ⟨Nat.le_of_ble_eq_true rfl, Nat.le_of_ble_eq_true rfl⟩) (pvW 7 0 hK hP rfl rfl hc_18) rfl rfl hl.1 rfl (lv_room (Nat.le_of_ble_eq_true rfl)) dX7_copy_62 ⟨Nat.le_of_ble_eq_true rfl, Nat.le_of_ble_eq_true rfl⟩) hS (fun q _ h => hc_18.2.2 q h) hc_18.2.2 (fun r_18 u_18 t_18 H1 locs ht hvm h_18 hB hz1 hk1 hS => ?_)
        refine xl_1_3 hB (fun xgn_18 hP1 hD1 hF_18_0 => ?_)
        clear hB
        rw [ht] at hP1
        obtain ⟨hP, hD⟩ := va_join (wr := [(xI la cI 8 fl), (xI le cI 8 fe), (xo_5_rrr ro it la le), (xJ it cJ 8 fi), (xI y0 cI 40 f0n_17), (xI y1 cI 40 f1n_17), (xI y2 cI 40 f2n_17), (xI y3 cI 40 f3n_17), (xI y4 cI 40 f4n_17), (xI y5 cI 40 f5n_17), (xI y6 cI 40 f6n_17), (xI y7 cI 40 f7n_17)]) (w1 := [(xo_7_rrrrrrrrrii x ro ta no ac im tr pl cs ak xf xgn_18)]) hP hD [0] [1, 2, 3, 4, 5, 6, 7, 8, 9, 10, 11, 12] rfl rfl (by decide +kernel) (by decide +kernel) hk1 hc_18.2.2 hP1 hD1
        generalize H1 = H at hP hS ⊢
        have hP : va_P (dC, dI) vwCl [(xI la cI 8 fl), (xI le cI 8 fe), (xo_5_rrr ro it la le), (xJ it cJ 8 fi), (xI y0 cI 40 f0n_17), (xI y1 cI 40 f1n_17), (xI y2 cI 40 f2n_17), (xI y3 cI 40 f3n_17), (xI y4 cI 40 f4n_17), (xI y5 cI 40 f5n_17), (xI y6 cI 40 f6n_17), (xI y7 cI 40 f7n_17), (xo_7_rrrrrrrrrii x ro ta no ac im tr pl cs ak xf xgn_18)] H := hP
        have hD := dto hP hD
        have hX9 := cut2 (wc := [(xo_7_rrrrrrrrrii x ro ta no ac im tr pl cs ak xf xgn_18), (xo_5_rrr ro it la le), (xI la cI 8 fl), (xI le cI 8 fe), (xJ it cJ 8 fi), (xI y0 cI 40 f0n_17), (xI y1 cI 40 f1n_17), (xI y2 cI 40 f2n_17), (xI y3 cI 40 f3n_17), (xI y4 cI 40 f4n_17), (xI y5 cI 40 f5n_17), (xI y6 cI 40 f6n_17), (xI y7 cI 40 f7n_17)]) hP hD [12, 2, 0, 1, 3, 4, 5, 6, 7, 8, 9, 10, 11] (by decide +kernel) rfl
        exact W.iret (v := r_18) hx hb hr (fun t ht hW => ⟨⟨r_18, (), rfl, (lf_X7_copy_5 hfi hfe hj_1 hj_5 f_9_2_0 f_9_2_1 f_9_2_2 f_9_2_3 f_9_2_4 hab_14 hab_15 eb_15 hF_18_0 h_18), ⟨f0n_17, f1n_17, f2n_17, f3n_17, f4n_17, f5n_17, f6n_17, f7n_17, xgn_18, va_Ht ht hX9.1, hX9.2⟩⟩, hS.F ht⟩) hS.2.2 dX7_copy_65
      · subst h_9
        refine lv_istore (lv' := [(6, .int 2), (0, .ref x), (1, .int (nI j_1)), (2, .int k1), (3, .int (nI j_5)), (4, .int k3), (5, .int k4)]) hx hb dX7_copy_31 hl (by decide) rfl (fun ls hl => ?_)
        refine lv_iload hx hb dX7_copy_33 (lv_at hl 0 rfl) ?_
        refine lv_if_eq (tgt := 45) hx hb dX7_copy_35 (by decide) (fun c_ => absurd c_ (by decide)) (fun _ => ?_)
        refine lv_aload_n hx hb dX7_copy_38 rfl (lv_at hl 1 rfl) ?_
        refine lv_iload hx hb dX7_copy_39 (lv_at hl 0 rfl) ?_
        have hc_20 := cutW (wc := [(xo_7_rrrrrrrrrii x ro ta no ac im tr pl cs ak xf xg)]) hP hD hS hA [0] (by decide +kernel) rfl
        refine va_calli (va_runV (As := [.int 2]) (rest := []) ⟨hx, hb, hml, hown, hts⟩ (r_X7_found l dC dI cI cZ cL cJ s.heap.size x ro ta no ac im tr pl cs ak xf xg 2 ) (cwV 1 hts gX7_copy_X7_found rfl rfl rfl (by decide +kernel) ⟨Nat.le_of_ble_eq_true rfl, Nat.le_of_ble_eq_true rfl⟩) (pvW 7 0 hK hP rfl rfl hc_20) rfl rfl hl.1 rfl (lv_room (Nat.le_of_ble_eq_true rfl)) dX7_copy_41 ⟨Nat.le_of_ble_eq_true rfl, Nat.le_of_ble_eq_true rfl⟩) hS (fun q _ h => hc_20.2.2 q h) hc_20.2.2 (fun r_20 u_20 t_20 H1 locs ht hvm h_20 hB hz1 hk1 hS => ?_)
        refine xl_1_3 hB (fun xgn_20 hP1 hD1 hF_20_0 => ?_)
        clear hB
        rw [ht] at hP1
        obtain ⟨hP, hD⟩ := va_join (wr := [(xo_5_rrr ro it la le), (xI la cI 8 fl), (xI le cI 8 fe), (xJ it cJ 8 fi), (xI y0 cI 40 f0), (xI y1 cI 40 f1), (xI y2 cI 40 f2), (xI y3 cI 40 f3), (xI y4 cI 40 f4), (xI y5 cI 40 f5), (xI y6 cI 40 f6), (xI y7 cI 40 f7)]) (w1 := [(xo_7_rrrrrrrrrii x ro ta no ac im tr pl cs ak xf xgn_20)]) hP hD [0] [1, 2, 3, 4, 5, 6, 7, 8, 9, 10, 11, 12] rfl rfl (by decide +kernel) (by decide +kernel) hk1 hc_20.2.2 hP1 hD1
        generalize H1 = H at hP hS ⊢
        have hP : va_P (dC, dI) vwCl [(xo_5_rrr ro it la le), (xI la cI 8 fl), (xI le cI 8 fe), (xJ it cJ 8 fi), (xI y0 cI 40 f0), (xI y1 cI 40 f1), (xI y2 cI 40 f2), (xI y3 cI 40 f3), (xI y4 cI 40 f4), (xI y5 cI 40 f5), (xI y6 cI 40 f6), (xI y7 cI 40 f7), (xo_7_rrrrrrrrrii x ro ta no ac im tr pl cs ak xf xgn_20)] H := hP
        have hD := dto hP hD
        have hX9 := cut2 (wc := [(xo_7_rrrrrrrrrii x ro ta no ac im tr pl cs ak xf xgn_20), (xo_5_rrr ro it la le), (xI la cI 8 fl), (xI le cI 8 fe), (xJ it cJ 8 fi), (xI y0 cI 40 f0), (xI y1 cI 40 f1), (xI y2 cI 40 f2), (xI y3 cI 40 f3), (xI y4 cI 40 f4), (xI y5 cI 40 f5), (xI y6 cI 40 f6), (xI y7 cI 40 f7)]) hP hD [12, 0, 1, 2, 3, 4, 5, 6, 7, 8, 9, 10, 11] (by decide +kernel) rfl
        exact W.iret (v := r_20) hx hb hr (fun t ht hW => ⟨⟨r_20, (), rfl, (lf_X7_copy_6 hfi hfe hj_1 hj_5 f_9_3_0 f_9_3_1 f_9_3_2 f_9_3_3 hF_20_0 h_20), ⟨f0, f1, f2, f3, f4, f5, f6, f7, xgn_20, va_Ht ht hX9.1, hX9.2⟩⟩, hS.F ht⟩) hS.2.2 dX7_copy_44
theorem lf_X7_drop_1 {fl : Nat → Int32} {fe : Nat → Int32} {y0 : Nat} {y1 : Nat} {y2 : Nat} {y3 : Nat} {y4 : Nat} {y5 : Nat} {y6 : Nat} {y7 : Nat} {fi : Nat → Option Nat} {k0 : Int32} (hfi : fi 0 = some y0 ∧ fi 1 = some y1 ∧ fi 2 = some y2 ∧ fi 3 = some y3 ∧ fi 4 = some y4 ∧ fi 5 = some y5 ∧ fi 6 = some y6 ∧ fi 7 = some y7) (hfe : ∀ jq : Nat, jq < 8 → ∃ q : Nat, q ≤ 40 ∧ fe jq = nI q) (f_1_0_0 : (k0 < 0 ∨ 8 ≤ k0)) : abl fl = sd_l (abl fl) k0 := by
  first
  | with_reducible exact (ar_drop_0 (by assumption)).symm
  | (subst_vars; with_reducible exact (ar_drop_1 (by assumption) (by assumption)).symm)
  | (subst_vars; with_reducible exact (ar_drop_2 (by assumption) (by assumption)).symm)
  | with_reducible exact (sd_l_0 (by assumption)).symm
  | with_reducible exact (sd_n_0 (by assumption)).symm
  | (subst_vars; with_reducible exact sd_l_1 (by assumption))
  | (subst_vars; with_reducible exact sd_n_1 (by assumption))
  | (subst_vars; with_reducible exact sd_l_2 (by assumption) (by assumption))
  | (subst_vars; with_reducible exact sd_n_2 (by assumption) (by assumption))
  | exact (ar_drop_0 (by assumption)).symm
  | (subst_vars; exact (ar_drop_1 (by assumption) (by assumption)).symm)
  | (subst_vars; exact (ar_drop_2 (by assumption) (by assumption)).symm)
  | exact (sd_l_0 (by assumption)).symm
  | exact (sd_n_0 (by assumption)).symm
  | (subst_vars; exact sd_l_1 (by assumption))
  | (subst_vars; exact sd_n_1 (by assumption))
  | (subst_vars; exact sd_l_2 (by assumption) (by assumption))
  | (subst_vars; exact sd_n_2 (by assumption) (by assumption))
theorem lf_X7_drop_2 {fl : Nat → Int32} {fe : Nat → Int32} {y0 : Nat} {y1 : Nat} {y2 : Nat} {y3 : Nat} {y4 : Nat} {y5 : Nat} {y6 : Nat} {y7 : Nat} {fi : Nat → Option Nat} {k0 : Int32} (hfi : fi 0 = some y0 ∧ fi 1 = some y1 ∧ fi 2 = some y2 ∧ fi 3 = some y3 ∧ fi 4 = some y4 ∧ fi 5 = some y5 ∧ fi 6 = some y6 ∧ fi 7 = some y7) (hfe : ∀ jq : Nat, jq < 8 → ∃ q : Nat, q ≤ 40 ∧ fe jq = nI q) (f_1_0_0 : (k0 < 0 ∨ 8 ≤ k0)) : abn fl fe = sd_n (abn fl fe) k0 := by
  first
  | with_reducible exact (ar_drop_0 (by assumption)).symm
  | (subst_vars; with_reducible exact (ar_drop_1 (by assumption) (by assumption)).symm)
  | (subst_vars; with_reducible exact (ar_drop_2 (by assumption) (by assumption)).symm)
  | with_reducible exact (sd_l_0 (by assumption)).symm
  | with_reducible exact (sd_n_0 (by assumption)).symm
  | (subst_vars; with_reducible exact sd_l_1 (by assumption))
  | (subst_vars; with_reducible exact sd_n_1 (by assumption))
  | (subst_vars; with_reducible exact sd_l_2 (by assumption) (by assumption))
  | (subst_vars; with_reducible exact sd_n_2 (by assumption) (by assumption))
  | exact (ar_drop_0 (by assumption)).symm
  | (subst_vars; exact (ar_drop_1 (by assumption) (by assumption)).symm)
  | (subst_vars; exact (ar_drop_2 (by assumption) (by assumption)).symm)
  | exact (sd_l_0 (by assumption)).symm
  | exact (sd_n_0 (by assumption)).symm
  | (subst_vars; exact sd_l_1 (by assumption))
  | (subst_vars; exact sd_n_1 (by assumption))
  | (subst_vars; exact sd_l_2 (by assumption) (by assumption))
  | (subst_vars; exact sd_n_2 (by assumption) (by assumption))
theorem lf_X7_drop_3 {fl : Nat → Int32} {fe : Nat → Int32} {y0 : Nat} {y1 : Nat} {y2 : Nat} {y3 : Nat} {y4 : Nat} {y5 : Nat} {y6 : Nat} {y7 : Nat} {fi : Nat → Option Nat} {k0 : Int32} (hfi : fi 0 = some y0 ∧ fi 1 = some y1 ∧ fi 2 = some y2 ∧ fi 3 = some y3 ∧ fi 4 = some y4 ∧ fi 5 = some y5 ∧ fi 6 = some y6 ∧ fi 7 = some y7) (hfe : ∀ jq : Nat, jq < 8 → ∃ q : Nat, q ≤ 40 ∧ fe jq = nI q) (f_1_0_0 : (k0 < 0 ∨ 8 ≤ k0)) : (-1000001) = (ar_drop (abl fl) (abn fl fe) k0) := by
  first
  | with_reducible exact (ar_drop_0 (by assumption)).symm
  | (subst_vars; with_reducible exact (ar_drop_1 (by assumption) (by assumption)).symm)
  | (subst_vars; with_reducible exact (ar_drop_2 (by assumption) (by assumption)).symm)
  | with_reducible exact (sd_l_0 (by assumption)).symm
  | with_reducible exact (sd_n_0 (by assumption)).symm
  | (subst_vars; with_reducible exact sd_l_1 (by assumption))
  | (subst_vars; with_reducible exact sd_n_1 (by assumption))
  | (subst_vars; with_reducible exact sd_l_2 (by assumption) (by assumption))
  | (subst_vars; with_reducible exact sd_n_2 (by assumption) (by assumption))
  | exact (ar_drop_0 (by assumption)).symm
  | (subst_vars; exact (ar_drop_1 (by assumption) (by assumption)).symm)
  | (subst_vars; exact (ar_drop_2 (by assumption) (by assumption)).symm)
  | exact (sd_l_0 (by assumption)).symm
  | exact (sd_n_0 (by assumption)).symm
  | (subst_vars; exact sd_l_1 (by assumption))
  | (subst_vars; exact sd_n_1 (by assumption))
  | (subst_vars; exact sd_l_2 (by assumption) (by assumption))
  | (subst_vars; exact sd_n_2 (by assumption) (by assumption))
theorem lf_X7_drop_4 {fl : Nat → Int32} {fe : Nat → Int32} {y0 : Nat} {y1 : Nat} {y2 : Nat} {y3 : Nat} {y4 : Nat} {y5 : Nat} {y6 : Nat} {y7 : Nat} {fi : Nat → Option Nat} {j_1 : Nat} {fln_7 : Nat → Int32} {r_7 : Int32} {xgn_8 : Int32} {r_8 : Int32} (hfi : fi 0 = some y0 ∧ fi 1 = some y1 ∧ fi 2 = some y2 ∧ fi 3 = some y3 ∧ fi 4 = some y4 ∧ fi 5 = some y5 ∧ fi 6 = some y6 ∧ fi 7 = some y7) (hfe : ∀ jq : Nat, jq < 8 → ∃ q : Nat, q ≤ 40 ∧ fe jq = nI q) (hj_1 : j_1 < 8) (f_5_0_0 : ¬ fl j_1 = -1) (hF_7_0 : fln_7 = upd fl j_1 (-1)) (h_7 : r_7 = (fe j_1)) (hF_8_0 : (xgn_8 : Int32) = 0) (h_8 : r_8 = r_7) : abl fln_7 = sd_l (abl fl) (nI j_1) := by
  first
  | with_reducible exact (ar_drop_0 (by assumption)).symm
  | (subst_vars; with_reducible exact (ar_drop_1 (by assumption) (by assumption)).symm)
  | (subst_vars; with_reducible exact (ar_drop_2 (by assumption) (by assumption)).symm)
  | with_reducible exact (sd_l_0 (by assumption)).symm
  | with_reducible exact (sd_n_0 (by assumption)).symm
  | (subst_vars; with_reducible exact sd_l_1 (by assumption))
  | (subst_vars; with_reducible exact sd_n_1 (by assumption))
  | (subst_vars; with_reducible exact sd_l_2 (by assumption) (by assumption))
  | (subst_vars; with_reducible exact sd_n_2 (by assumption) (by assumption))
  | exact (ar_drop_0 (by assumption)).symm
  | (subst_vars; exact (ar_drop_1 (by assumption) (by assumption)).symm)
  | (subst_vars; exact (ar_drop_2 (by assumption) (by assumption)).symm)
  | exact (sd_l_0 (by assumption)).symm
  | exact (sd_n_0 (by assumption)).symm
  | (subst_vars; exact sd_l_1 (by assumption))
  | (subst_vars; exact sd_n_1 (by assumption))
  | (subst_vars; exact sd_l_2 (by assumption) (by assumption))
  | (subst_vars; exact sd_n_2 (by assumption) (by assumption))
theorem lf_X7_drop_5 {fl : Nat → Int32} {fe : Nat → Int32} {y0 : Nat} {y1 : Nat} {y2 : Nat} {y3 : Nat} {y4 : Nat} {y5 : Nat} {y6 : Nat} {y7 : Nat} {fi : Nat → Option Nat} {j_1 : Nat} {fln_7 : Nat → Int32} {r_7 : Int32} {xgn_8 : Int32} {r_8 : Int32} (hfi : fi 0 = some y0 ∧ fi 1 = some y1 ∧ fi 2 = some y2 ∧ fi 3 = some y3 ∧ fi 4 = some y4 ∧ fi 5 = some y5 ∧ fi 6 = some y6 ∧ fi 7 = some y7) (hfe : ∀ jq : Nat, jq < 8 → ∃ q : Nat, q ≤ 40 ∧ fe jq = nI q) (hj_1 : j_1 < 8) (f_5_0_0 : ¬ fl j_1 = -1) (hF_7_0 : fln_7 = upd fl j_1 (-1)) (h_7 : r_7 = (fe j_1)) (hF_8_0 : (xgn_8 : Int32) = 0) (h_8 : r_8 = r_7) : abn fln_7 fe = sd_n (abn fl fe) (nI j_1) := by
  first
  | with_reducible exact (ar_drop_0 (by assumption)).symm
  | (subst_vars; with_reducible exact (ar_drop_1 (by assumption) (by assumption)).symm)
  | (subst_vars; with_reducible exact (ar_drop_2 (by assumption) (by assumption)).symm)
  | with_reducible exact (sd_l_0 (by assumption)).symm
  | with_reducible exact (sd_n_0 (by assumption)).symm
  | (subst_vars; with_reducible exact sd_l_1 (by assumption))
  | (subst_vars; with_reducible exact sd_n_1 (by assumption))
  | (subst_vars; with_reducible exact sd_l_2 (by assumption) (by assumption))
  | (subst_vars; with_reducible exact sd_n_2 (by assumption) (by assumption))
  | exact (ar_drop_0 (by assumption)).symm
  | (subst_vars; exact (ar_drop_1 (by assumption) (by assumption)).symm)
  | (subst_vars; exact (ar_drop_2 (by assumption) (by assumption)).symm)
  | exact (sd_l_0 (by assumption)).symm
  | exact (sd_n_0 (by assumption)).symm
  | (subst_vars; exact sd_l_1 (by assumption))
  | (subst_vars; exact sd_n_1 (by assumption))
  | (subst_vars; exact sd_l_2 (by assumption) (by assumption))
  | (subst_vars; exact sd_n_2 (by assumption) (by assumption))
theorem lf_X7_drop_6 {fl : Nat → Int32} {fe : Nat → Int32} {y0 : Nat} {y1 : Nat} {y2 : Nat} {y3 : Nat} {y4 : Nat} {y5 : Nat} {y6 : Nat} {y7 : Nat} {fi : Nat → Option Nat} {j_1 : Nat} {fln_7 : Nat → Int32} {r_7 : Int32} {xgn_8 : Int32} {r_8 : Int32} (hfi : fi 0 = some y0 ∧ fi 1 = some y1 ∧ fi 2 = some y2 ∧ fi 3 = some y3 ∧ fi 4 = some y4 ∧ fi 5 = some y5 ∧ fi 6 = some y6 ∧ fi 7 = some y7) (hfe : ∀ jq : Nat, jq < 8 → ∃ q : Nat, q ≤ 40 ∧ fe jq = nI q) (hj_1 : j_1 < 8) (f_5_0_0 : ¬ fl j_1 = -1) (hF_7_0 : fln_7 = upd fl j_1 (-1)) (h_7 : r_7 = (fe j_1)) (hF_8_0 : (xgn_8 : Int32) = 0) (h_8 : r_8 = r_7) : r_8 = (ar_drop (abl fl) (abn fl fe) (nI j_1)) := by
  first
  | with_reducible exact (ar_drop_0 (by assumption)).symm
  | (subst_vars; with_reducible exact (ar_drop_1 (by assumption) (by assumption)).symm)
  | (subst_vars; with_reducible exact (ar_drop_2 (by assumption) (by assumption)).symm)
  | with_reducible exact (sd_l_0 (by assumption)).symm
  | with_reducible exact (sd_n_0 (by assumption)).symm
  | (subst_vars; with_reducible exact sd_l_1 (by assumption))
  | (subst_vars; with_reducible exact sd_n_1 (by assumption))
  | (subst_vars; with_reducible exact sd_l_2 (by assumption) (by assumption))
  | (subst_vars; with_reducible exact sd_n_2 (by assumption) (by assumption))
  | exact (ar_drop_0 (by assumption)).symm
  | (subst_vars; exact (ar_drop_1 (by assumption) (by assumption)).symm)
  | (subst_vars; exact (ar_drop_2 (by assumption) (by assumption)).symm)
  | exact (sd_l_0 (by assumption)).symm
  | exact (sd_n_0 (by assumption)).symm
  | (subst_vars; exact sd_l_1 (by assumption))
  | (subst_vars; exact sd_n_1 (by assumption))
  | (subst_vars; exact sd_l_2 (by assumption) (by assumption))
  | (subst_vars; exact sd_n_2 (by assumption) (by assumption))
theorem lf_X7_drop_7 {fl : Nat → Int32} {fe : Nat → Int32} {y0 : Nat} {y1 : Nat} {y2 : Nat} {y3 : Nat} {y4 : Nat} {y5 : Nat} {y6 : Nat} {y7 : Nat} {fi : Nat → Option Nat} {j_1 : Nat} {xgn_10 : Int32} {r_10 : Int32} (hfi : fi 0 = some y0 ∧ fi 1 = some y1 ∧ fi 2 = some y2 ∧ fi 3 = some y3 ∧ fi 4 = some y4 ∧ fi 5 = some y5 ∧ fi 6 = some y6 ∧ fi 7 = some y7) (hfe : ∀ jq : Nat, jq < 8 → ∃ q : Nat, q ≤ 40 ∧ fe jq = nI q) (hj_1 : j_1 < 8) (f_5_1_0 : fl j_1 = -1) (hF_10_0 : (xgn_10 : Int32) = 1) (h_10 : r_10 = (-1000010 - 1)) : abl fl = sd_l (abl fl) (nI j_1) := by
  first
  | with_reducible exact (ar_drop_0 (by assumption)).symm
  | (subst_vars; with_reducible exact (ar_drop_1 (by assumption) (by assumption)).symm)
  | (subst_vars; with_reducible exact (ar_drop_2 (by assumption) (by assumption)).symm)
  | with_reducible exact (sd_l_0 (by assumption)).symm
  | with_reducible exact (sd_n_0 (by assumption)).symm
  | (subst_vars; with_reducible exact sd_l_1 (by assumption))
  | (subst_vars; with_reducible exact sd_n_1 (by assumption))
  | (subst_vars; with_reducible exact sd_l_2 (by assumption) (by assumption))
  | (subst_vars; with_reducible exact sd_n_2 (by assumption) (by assumption))
  | exact (ar_drop_0 (by assumption)).symm
  | (subst_vars; exact (ar_drop_1 (by assumption) (by assumption)).symm)
  | (subst_vars; exact (ar_drop_2 (by assumption) (by assumption)).symm)
  | exact (sd_l_0 (by assumption)).symm
  | exact (sd_n_0 (by assumption)).symm
  | (subst_vars; exact sd_l_1 (by assumption))
  | (subst_vars; exact sd_n_1 (by assumption))
  | (subst_vars; exact sd_l_2 (by assumption) (by assumption))
  | (subst_vars; exact sd_n_2 (by assumption) (by assumption))
theorem lf_X7_drop_8 {fl : Nat → Int32} {fe : Nat → Int32} {y0 : Nat} {y1 : Nat} {y2 : Nat} {y3 : Nat} {y4 : Nat} {y5 : Nat} {y6 : Nat} {y7 : Nat} {fi : Nat → Option Nat} {j_1 : Nat} {xgn_10 : Int32} {r_10 : Int32} (hfi : fi 0 = some y0 ∧ fi 1 = some y1 ∧ fi 2 = some y2 ∧ fi 3 = some y3 ∧ fi 4 = some y4 ∧ fi 5 = some y5 ∧ fi 6 = some y6 ∧ fi 7 = some y7) (hfe : ∀ jq : Nat, jq < 8 → ∃ q : Nat, q ≤ 40 ∧ fe jq = nI q) (hj_1 : j_1 < 8) (f_5_1_0 : fl j_1 = -1) (hF_10_0 : (xgn_10 : Int32) = 1) (h_10 : r_10 = (-1000010 - 1)) : abn fl fe = sd_n (abn fl fe) (nI j_1) := by
  first
  | with_reducible exact (ar_drop_0 (by assumption)).symm
  | (subst_vars; with_reducible exact (ar_drop_1 (by assumption) (by assumption)).symm)
  | (subst_vars; with_reducible exact (ar_drop_2 (by assumption) (by assumption)).symm)
  | with_reducible exact (sd_l_0 (by assumption)).symm
  | with_reducible exact (sd_n_0 (by assumption)).symm
  | (subst_vars; with_reducible exact sd_l_1 (by assumption))
  | (subst_vars; with_reducible exact sd_n_1 (by assumption))
  | (subst_vars; with_reducible exact sd_l_2 (by assumption) (by assumption))
  | (subst_vars; with_reducible exact sd_n_2 (by assumption) (by assumption))
  | exact (ar_drop_0 (by assumption)).symm
  | (subst_vars; exact (ar_drop_1 (by assumption) (by assumption)).symm)
  | (subst_vars; exact (ar_drop_2 (by assumption) (by assumption)).symm)
  | exact (sd_l_0 (by assumption)).symm
  | exact (sd_n_0 (by assumption)).symm
  | (subst_vars; exact sd_l_1 (by assumption))
  | (subst_vars; exact sd_n_1 (by assumption))
  | (subst_vars; exact sd_l_2 (by assumption) (by assumption))
  | (subst_vars; exact sd_n_2 (by assumption) (by assumption))
theorem lf_X7_drop_9 {fl : Nat → Int32} {fe : Nat → Int32} {y0 : Nat} {y1 : Nat} {y2 : Nat} {y3 : Nat} {y4 : Nat} {y5 : Nat} {y6 : Nat} {y7 : Nat} {fi : Nat → Option Nat} {j_1 : Nat} {xgn_10 : Int32} {r_10 : Int32} (hfi : fi 0 = some y0 ∧ fi 1 = some y1 ∧ fi 2 = some y2 ∧ fi 3 = some y3 ∧ fi 4 = some y4 ∧ fi 5 = some y5 ∧ fi 6 = some y6 ∧ fi 7 = some y7) (hfe : ∀ jq : Nat, jq < 8 → ∃ q : Nat, q ≤ 40 ∧ fe jq = nI q) (hj_1 : j_1 < 8) (f_5_1_0 : fl j_1 = -1) (hF_10_0 : (xgn_10 : Int32) = 1) (h_10 : r_10 = (-1000010 - 1)) : r_10 = (ar_drop (abl fl) (abn fl fe) (nI j_1)) := by
  first
  | with_reducible exact (ar_drop_0 (by assumption)).symm
  | (subst_vars; with_reducible exact (ar_drop_1 (by assumption) (by assumption)).symm)
  | (subst_vars; with_reducible exact (ar_drop_2 (by assumption) (by assumption)).symm)
  | with_reducible exact (sd_l_0 (by assumption)).symm
  | with_reducible exact (sd_n_0 (by assumption)).symm
  | (subst_vars; with_reducible exact sd_l_1 (by assumption))
  | (subst_vars; with_reducible exact sd_n_1 (by assumption))
  | (subst_vars; with_reducible exact sd_l_2 (by assumption) (by assumption))
  | (subst_vars; with_reducible exact sd_n_2 (by assumption) (by assumption))
  | exact (ar_drop_0 (by assumption)).symm
  | (subst_vars; exact (ar_drop_1 (by assumption) (by assumption)).symm)
  | (subst_vars; exact (ar_drop_2 (by assumption) (by assumption)).symm)
  | exact (sd_l_0 (by assumption)).symm
  | exact (sd_n_0 (by assumption)).symm
  | (subst_vars; exact sd_l_1 (by assumption))
  | (subst_vars; exact sd_n_1 (by assumption))
  | (subst_vars; exact sd_l_2 (by assumption) (by assumption))
  | (subst_vars; exact sd_n_2 (by assumption) (by assumption))
set_option maxHeartbeats 4000000 in
set_option maxRecDepth 100000 in
theorem r_X7_drop (l : Launch) (dC : Nat → ClassId) (dI : Nat → Nat → Nat) (cI cZ cL cJ : ClassId) (sz : Nat) (x : Nat) (ro : Nat) (ta : Nat) (no : Nat) (ac : Nat) (im : Nat) (tr : Nat) (pl : Nat) (cs : Nat) (ak : Nat) (xf : Int32) (xg : Int32) (it : Nat) (la : Nat) (le : Nat) (fl : Nat → Int32) (fe : Nat → Int32) (y0 : Nat) (y1 : Nat) (y2 : Nat) (y3 : Nat) (y4 : Nat) (y5 : Nat) (y6 : Nat) (y7 : Nat) (f0 : Nat → Int32) (f1 : Nat → Int32) (f2 : Nat → Int32) (f3 : Nat → Int32) (f4 : Nat → Int32) (f5 : Nat → Int32) (f6 : Nat → Int32) (f7 : Nat → Int32) (fi : Nat → Option Nat) (k0 : Int32) (hfi : fi 0 = some y0 ∧ fi 1 = some y1 ∧ fi 2 = some y2 ∧ fi 3 = some y3 ∧ fi 4 = some y4 ∧ fi 5 = some y5 ∧ fi 6 = some y6 ∧ fi 7 = some y7) (hfe : ∀ jq : Nat, jq < 8 → ∃ q : Nat, q ≤ 40 ∧ fe jq = nI q) : Met l yX7_drop wsX7_drop ({ frames := 1, cells := 0, slots := 0, locals := 21 }) (va_Pc [.ref x, .int k0] (fun U => U.heap.size = sz ∧ va_P (dC, dI) vwCl [(xo_7_rrrrrrrrrii x ro ta no ac im tr pl cs ak xf xg), (xo_5_rrr ro it la le), (xI la cI 8 fl), (xI le cI 8 fe), (xJ it cJ 8 fi), (xI y0 cI 40 f0), (xI y1 cI 40 f1), (xI y2 cI 40 f2), (xI y3 cI 40 f3), (xI y4 cI 40 f4), (xI y5 cI 40 f5), (xI y6 cI 40 f6), (xI y7 cI 40 f7)] U.heap ∧ va_K (dC, dI) vwCl [(cI, .int), (cZ, .boolean), (cL, .object RX3), (cJ, .array .int)] U ∧ va_D (fun _ => True) [(xo_7_rrrrrrrrrii x ro ta no ac im tr pl cs ak xf xg), (xo_5_rrr ro it la le), (xI la cI 8 fl), (xI le cI 8 fe), (xJ it cJ 8 fi), (xI y0 cI 40 f0), (xI y1 cI 40 f1), (xI y2 cI 40 f2), (xI y3 cI 40 f3), (xI y4 cI 40 f4), (xI y5 cI 40 f5), (xI y6 cI 40 f6), (xI y7 cI 40 f7)])) (va_Qi (fun r (_ : Unit) => r = (ar_drop (abl fl) (abn fl fe) k0)) (fun (_ : Unit) t => ∃ (fln : Nat → Int32) (xgn : Int32), va_P (dC, dI) vwCl [(xo_7_rrrrrrrrrii x ro ta no ac im tr pl cs ak xf xgn), (xo_5_rrr ro it la le), (xI la cI 8 fln), (xI le cI 8 fe), (xJ it cJ 8 fi), (xI y0 cI 40 f0), (xI y1 cI 40 f1), (xI y2 cI 40 f2), (xI y3 cI 40 f3), (xI y4 cI 40 f4), (xI y5 cI 40 f5), (xI y6 cI 40 f6), (xI y7 cI 40 f7)] t.heap ∧ va_D (va_A [(xo_7_rrrrrrrrrii x ro ta no ac im tr pl cs ak xf xg), (xo_5_rrr ro it la le), (xI la cI 8 fl), (xI le cI 8 fe), (xJ it cJ 8 fi), (xI y0 cI 40 f0), (xI y1 cI 40 f1), (xI y2 cI 40 f2), (xI y3 cI 40 f3), (xI y4 cI 40 f4), (xI y5 cI 40 f5), (xI y6 cI 40 f6), (xI y7 cI 40 f7)] sz) [(xo_7_rrrrrrrrrii x ro ta no ac im tr pl cs ak xf xgn), (xo_5_rrr ro it la le), (xI la cI 8 fln), (xI le cI 8 fe), (xJ it cJ 8 fi), (xI y0 cI 40 f0), (xI y1 cI 40 f1), (xI y2 cI 40 f2), (xI y3 cI 40 f3), (xI y4 cI 40 f4), (xI y5 cI 40 f5), (xI y6 cI 40 f6), (xI y7 cI 40 f7)] ∧ abl fln = sd_l (abl fl) k0 ∧ abn fln fe = sd_n (abn fl fe) k0) (va_A [(xo_7_rrrrrrrrrii x ro ta no ac im tr pl cs ak xf xg), (xo_5_rrr ro it la le), (xI la cI 8 fl), (xI le cI 8 fe), (xJ it cJ 8 fi), (xI y0 cI 40 f0), (xI y1 cI 40 f1), (xI y2 cI 40 f2), (xI y3 cI 40 f3), (xI y4 cI 40 f4), (xI y5 cI 40 f5), (xI y6 cI 40 f6), (xI y7 cI 40 f7)] sz)) 0 0 (va_A [(xo_7_rrrrrrrrrii x ro ta no ac im tr pl cs ak xf xg), (xo_5_rrr ro it la le), (xI la cI 8 fl), (xI le cI 8 fe), (xJ it cJ 8 fi), (xI y0 cI 40 f0), (xI y1 cI 40 f1), (xI y2 cI 40 f2), (xI y3 cI 40 f3), (xI y4 cI 40 f4), (xI y5 cI 40 f5), (xI y6 cI 40 f6), (xI y7 cI 40 f7)] sz) := by
  refine Met.ofW (cc := cX7_drop) (maxL := 2) (ret := (some .int)) (by decide) rfl ?_
  intro p e s m args below meth c s₁ B hml hv
  obtain ⟨rfl, hsz, hP, hK, hD0⟩ := hv
  have hx := B.exec
  have hb := B.bytes
  have hr := B.returns
  have hts := atoms_spec (ws := wsX7_drop) B.pre
  have hown : s.vm.findClass RX7 = some m.cls := findClass_of_methodNamed B.named
  have hlocks := B.notSynchronized
  subst hsz
  have hD := hD0.self (sz := s.heap.size)
  generalize hAe : va_A [(xo_7_rrrrrrrrrii x ro ta no ac im tr pl cs ak xf xg), (xo_5_rrr ro it la le), (xI la cI 8 fl), (xI le cI 8 fe), (xJ it cJ 8 fi), (xI y0 cI 40 f0), (xI y1 cI 40 f1), (xI y2 cI 40 f2), (xI y3 cI 40 f3), (xI y4 cI 40 f4), (xI y5 cI 40 f5), (xI y6 cI 40 f6), (xI y7 cI 40 f7)] s.heap.size = A at hD ⊢
  have hA : ∀ q : Nat, s.heap.size ≤ q → A q := fun q h => by rw [← hAe]; exact Or.inr h
  have hS : va_S A s.heap s.heap [] := va_S.rf
  have hP : va_P (dC, dI) vwCl [(xo_7_rrrrrrrrrii x ro ta no ac im tr pl cs ak xf xg), (xo_5_rrr ro it la le), (xI la cI 8 fl), (xI le cI 8 fe), (xJ it cJ 8 fi), (xI y0 cI 40 f0), (xI y1 cI 40 f1), (xI y2 cI 40 f2), (xI y3 cI 40 f3), (xI y4 cI 40 f4), (xI y5 cI 40 f5), (xI y6 cI 40 f6), (xI y7 cI 40 f7)] s.heap := hP
  have hl := lv_entry ([.ref x, .int k0]) (n := 2) (Nat.le_of_ble_eq_true rfl)
  rw [lg_entry_eq]
  generalize (lg_sl ([.ref x, .int k0]) ++ List.replicate (2 - (lg_sl ([.ref x, .int k0])).length) Slot.unset).toArray = ls at hl ⊢
  have hl : lv_has ls 2 [(0, .ref x), (1, .int k0)] := hl
  refine lv_iload_n hx hb dX7_drop_0 rfl (lv_at hl 1 rfl) ?_
  have hPc_1 := hP.sub (ws' := []) [] rfl
  refine vp_callSi (W.runS (As := [.int k0]) (rest := []) ⟨hx, hb, hml, hown, hts⟩ (r_X5_isRow l dC dI cI cZ cL cJ k0 ) (va_cwS 1 hts gX7_drop_X5_isRow rfl rfl rfl (by decide +kernel) ⟨Nat.le_of_ble_eq_true rfl, Nat.le_of_ble_eq_true rfl⟩) (psP hK hPc_1) rfl rfl hl.1 rfl (lv_room (Nat.le_of_ble_eq_true rfl)) dX7_drop_1 ⟨Nat.le_of_ble_eq_true rfl, Nat.le_of_ble_eq_true rfl⟩) (fun r_1 h_1 => ?_)
  rcases h_1 with ⟨h_1, f_1_0_0⟩ | ⟨h_1, f_1_1_0⟩
  · subst h_1
    refine lv_if_ne (tgt := 10) hx hb dX7_drop_4 (by decide) (fun c_ => absurd (by decide) c_) (fun _ => ?_)
    refine lv_ldc (own := RX7) (v := (-1000001)) hx hb hown (hts _ mx_X7_drop_1) dX7_drop_7 ?_
    have hX9 := cut2 (wc := [(xo_7_rrrrrrrrrii x ro ta no ac im tr pl cs ak xf xg), (xo_5_rrr ro it la le), (xI la cI 8 fl), (xI le cI 8 fe), (xJ it cJ 8 fi), (xI y0 cI 40 f0), (xI y1 cI 40 f1), (xI y2 cI 40 f2), (xI y3 cI 40 f3), (xI y4 cI 40 f4), (xI y5 cI 40 f5), (xI y6 cI 40 f6), (xI y7 cI 40 f7)]) hP hD [0, 1, 2, 3, 4, 5, 6, 7, 8, 9, 10, 11, 12] (by decide +kernel) rfl
    exact W.iret (v := (-1000001)) hx hb hr (fun t ht hW => ⟨⟨(-1000001), (), rfl, (lf_X7_drop_3 hfi hfe f_1_0_0), ⟨fl, xg, va_Ht ht hX9.1, hX9.2, (lf_X7_drop_1 hfi hfe f_1_0_0), (lf_X7_drop_2 hfi hfe f_1_0_0)⟩⟩, hS.F ht⟩) hS.2.2 dX7_drop_9
  · subst h_1
    obtain ⟨j_1, hj_1, rfl⟩ := vp_in_of f_1_1_0 (by omega)
    refine lv_if_ne (tgt := 10) hx hb dX7_drop_4 (by decide) (fun _ => ?_) (fun c_ => absurd c_ (by decide))
    refine lv_aload_n hx hb dX7_drop_10 rfl (lv_at hl 0 rfl) ?_
    refine va_get (D := (dC, dI)) (ci := 7) (v := .ref ro) (C := RX7) (T := TX7) (N := 11) hx hb hts i_X7_drop_X7 hown hK hP 0 rfl rfl 0 (by decide) (hts _ mx_X7_drop_2) (fun _ h9 => h9) rfl dX7_drop_11 ?_
    refine lv_iload_n hx hb dX7_drop_14 rfl (lv_at hl 1 rfl) ?_
    have hPc_5 := hP.sub (ws' := [(xo_5_rrr ro it la le), (xI la cI 8 fl)]) [1, 2] rfl
    refine vp_callSi (W.runV (As := [.int (nI j_1)]) (rest := []) ⟨hx, hb, hml, hown, hts⟩ (r_X5_isMissing l dC dI cI cZ cL cJ ro it la le fl j_1 (by omega)) (cwV 1 hts gX7_drop_X5_isMissing rfl rfl rfl (by decide +kernel) ⟨Nat.le_of_ble_eq_true rfl, Nat.le_of_ble_eq_true rfl⟩) (pvP 5 1 hK hP rfl rfl hPc_5) rfl rfl hl.1 rfl (lv_room (Nat.le_of_ble_eq_true rfl)) dX7_drop_15 ⟨Nat.le_of_ble_eq_true rfl, Nat.le_of_ble_eq_true rfl⟩) (fun r_5 h_5 => ?_)
    rcases h_5 with ⟨h_5, f_5_0_0⟩ | ⟨h_5, f_5_1_0⟩
    · subst h_5
      refine lv_if_eq (tgt := 27) hx hb dX7_drop_18 (by decide) (fun _ => ?_) (fun c_ => absurd (by decide) c_)
      refine lv_aload_n hx hb dX7_drop_27 rfl (lv_at hl 0 rfl) ?_
      refine lv_aload_n hx hb dX7_drop_28 rfl (lv_at hl 0 rfl) ?_
      refine va_get (D := (dC, dI)) (ci := 7) (v := .ref ro) (C := RX7) (T := TX7) (N := 11) hx hb hts i_X7_drop_X7 hown hK hP 0 rfl rfl 0 (by decide) (hts _ mx_X7_drop_2) (fun _ h9 => h9) rfl dX7_drop_29 ?_
      refine lv_iload_n hx hb dX7_drop_32 rfl (lv_at hl 1 rfl) ?_
      have hc_7 := cutW (wc := [(xo_5_rrr ro it la le), (xI la cI 8 fl), (xI le cI 8 fe)]) hP hD hS hA [1, 2, 3] (by decide +kernel) rfl
      refine va_calli (va_runV (As := [.int (nI j_1)]) (rest := [.ref x]) ⟨hx, hb, hml, hown, hts⟩ (r_X5_remove l dC dI cI cZ cL cJ s.heap.size ro it la le fl fe j_1 (by omega)) (cwV 1 hts gX7_drop_X5_remove rfl rfl rfl (by decide +kernel) ⟨Nat.le_of_ble_eq_true rfl, Nat.le_of_ble_eq_true rfl⟩) (pvW 5 1 hK hP rfl rfl hc_7) rfl rfl hl.1 rfl (lv_room (Nat.le_of_ble_eq_true rfl)) dX7_drop_33 ⟨Nat.le_of_ble_eq_true rfl, Nat.le_of_ble_eq_true rfl⟩) hS (fun q _ h => hc_7.2.2 q h) hc_7.2.2 (fun r_7 u_7 t_7 H1 locs ht hvm h_7 hB hz1 hk1 hS => ?_)
      refine xl_1_3 hB (fun fln_7 hP1 hD1 hF_7_0 => ?_)
      clear hB
      rw [ht] at hP1
      obtain ⟨hP, hD⟩ := va_join (wr := [(xo_7_rrrrrrrrrii x ro ta no ac im tr pl cs ak xf xg), (xJ it cJ 8 fi), (xI y0 cI 40 f0), (xI y1 cI 40 f1), (xI y2 cI 40 f2), (xI y3 cI 40 f3), (xI y4 cI 40 f4), (xI y5 cI 40 f5), (xI y6 cI 40 f6), (xI y7 cI 40 f7)]) (w1 := [(xo_5_rrr ro it la le), (xI la cI 8 fln_7), (xI le cI 8 fe)]) hP hD [1, 2, 3] [0, 4, 5, 6, 7, 8, 9, 10, 11, 12] rfl rfl (by decide +kernel) (by decide +kernel) hk1 hc_7.2.2 hP1 hD1
      generalize H1 = H at hP hS ⊢
      have hP : va_P (dC, dI) vwCl [(xo_7_rrrrrrrrrii x ro ta no ac im tr pl cs ak xf xg), (xJ it cJ 8 fi), (xI y0 cI 40 f0), (xI y1 cI 40 f1), (xI y2 cI 40 f2), (xI y3 cI 40 f3), (xI y4 cI 40 f4), (xI y5 cI 40 f5), (xI y6 cI 40 f6), (xI y7 cI 40 f7), (xo_5_rrr ro it la le), (xI la cI 8 fln_7), (xI le cI 8 fe)] H := hP
      have hD := dto hP hD
      have hc_8 := cutW (wc := [(xo_7_rrrrrrrrrii x ro ta no ac im tr pl cs ak xf xg)]) hP hD hS hA [0] (by decide +kernel) rfl
      refine va_calli (va_runV (As := [.int r_7]) (rest := []) ⟨hx, hb, hml, hown, hts⟩ (r_X7_foundNothing l dC dI cI cZ cL cJ H.size x ro ta no ac im tr pl cs ak xf xg r_7 ) (cwV 1 hts gX7_drop_X7_foundNothing rfl rfl rfl (by decide +kernel) ⟨Nat.le_of_ble_eq_true rfl, Nat.le_of_ble_eq_true rfl⟩) (pvW 7 0 hK hP rfl rfl hc_8) rfl rfl hl.1 rfl (lv_room (Nat.le_of_ble_eq_true rfl)) dX7_drop_36 ⟨Nat.le_of_ble_eq_true rfl, Nat.le_of_ble_eq_true rfl⟩) hS (fun q _ h => hc_8.2.2 q h) hc_8.2.2 (fun r_8 u_8 t_8 H1 locs ht hvm h_8 hB hz1 hk1 hS => ?_)
      refine xl_1_3 hB (fun xgn_8 hP1 hD1 hF_8_0 => ?_)
      clear hB
      rw [ht] at hP1
      obtain ⟨hP, hD⟩ := va_join (wr := [(xJ it cJ 8 fi), (xI y0 cI 40 f0), (xI y1 cI 40 f1), (xI y2 cI 40 f2), (xI y3 cI 40 f3), (xI y4 cI 40 f4), (xI y5 cI 40 f5), (xI y6 cI 40 f6), (xI y7 cI 40 f7), (xo_5_rrr ro it la le), (xI la cI 8 fln_7), (xI le cI 8 fe)]) (w1 := [(xo_7_rrrrrrrrrii x ro ta no ac im tr pl cs ak xf xgn_8)]) hP hD [0] [1, 2, 3, 4, 5, 6, 7, 8, 9, 10, 11, 12] rfl rfl (by decide +kernel) (by decide +kernel) hk1 hc_8.2.2 hP1 hD1
      generalize H1 = H at hP hS ⊢
      have hP : va_P (dC, dI) vwCl [(xJ it cJ 8 fi), (xI y0 cI 40 f0), (xI y1 cI 40 f1), (xI y2 cI 40 f2), (xI y3 cI 40 f3), (xI y4 cI 40 f4), (xI y5 cI 40 f5), (xI y6 cI 40 f6), (xI y7 cI 40 f7), (xo_5_rrr ro it la le), (xI la cI 8 fln_7), (xI le cI 8 fe), (xo_7_rrrrrrrrrii x ro ta no ac im tr pl cs ak xf xgn_8)] H := hP
      have hD := dto hP hD
      have hX9 := cut2 (wc := [(xo_7_rrrrrrrrrii x ro ta no ac im tr pl cs ak xf xgn_8), (xo_5_rrr ro it la le), (xI la cI 8 fln_7), (xI le cI 8 fe), (xJ it cJ 8 fi), (xI y0 cI 40 f0), (xI y1 cI 40 f1), (xI y2 cI 40 f2), (xI y3 cI 40 f3), (xI y4 cI 40 f4), (xI y5 cI 40 f5), (xI y6 cI 40 f6), (xI y7 cI 40 f7)]) hP hD [12, 9, 10, 11, 0, 1, 2, 3, 4, 5, 6, 7, 8] (by decide +kernel) rfl
      exact W.iret (v := r_8) hx hb hr (fun t ht hW => ⟨⟨r_8, (), rfl, (lf_X7_drop_6 hfi hfe hj_1 f_5_0_0 hF_7_0 h_7 hF_8_0 h_8), ⟨fln_7, xgn_8, va_Ht ht hX9.1, hX9.2, (lf_X7_drop_4 hfi hfe hj_1 f_5_0_0 hF_7_0 h_7 hF_8_0 h_8), (lf_X7_drop_5 hfi hfe hj_1 f_5_0_0 hF_7_0 h_7 hF_8_0 h_8)⟩⟩, hS.F ht⟩) hS.2.2 dX7_drop_39
    · subst h_5
      refine lv_if_eq (tgt := 27) hx hb dX7_drop_18 (by decide) (fun c_ => absurd c_ (by decide)) (fun _ => ?_)
      refine lv_aload_n hx hb dX7_drop_21 rfl (lv_at hl 0 rfl) ?_
      refine lv_iconst (v := 1) hx hb dX7_drop_22 (by decide) ?_
      have hc_10 := cutW (wc := [(xo_7_rrrrrrrrrii x ro ta no ac im tr pl cs ak xf xg)]) hP hD hS hA [0] (by decide +kernel) rfl
      refine va_calli (va_runV (As := [.int 1]) (rest := []) ⟨hx, hb, hml, hown, hts⟩ (r_X7_found l dC dI cI cZ cL cJ s.heap.size x ro ta no ac im tr pl cs ak xf xg 1 ) (cwV 1 hts gX7_drop_X7_found rfl rfl rfl (by decide +kernel) ⟨Nat.le_of_ble_eq_true rfl, Nat.le_of_ble_eq_true rfl⟩) (pvW 7 0 hK hP rfl rfl hc_10) rfl rfl hl.1 rfl (lv_room (Nat.le_of_ble_eq_true rfl)) dX7_drop_23 ⟨Nat.le_of_ble_eq_true rfl, Nat.le_of_ble_eq_true rfl⟩) hS (fun q _ h => hc_10.2.2 q h) hc_10.2.2 (fun r_10 u_10 t_10 H1 locs ht hvm h_10 hB hz1 hk1 hS => ?_)
      refine xl_1_3 hB (fun xgn_10 hP1 hD1 hF_10_0 => ?_)
      clear hB
      rw [ht] at hP1
      obtain ⟨hP, hD⟩ := va_join (wr := [(xo_5_rrr ro it la le), (xI la cI 8 fl), (xI le cI 8 fe), (xJ it cJ 8 fi), (xI y0 cI 40 f0), (xI y1 cI 40 f1), (xI y2 cI 40 f2), (xI y3 cI 40 f3), (xI y4 cI 40 f4), (xI y5 cI 40 f5), (xI y6 cI 40 f6), (xI y7 cI 40 f7)]) (w1 := [(xo_7_rrrrrrrrrii x ro ta no ac im tr pl cs ak xf xgn_10)]) hP hD [0] [1, 2, 3, 4, 5, 6, 7, 8, 9, 10, 11, 12] rfl rfl (by decide +kernel) (by decide +kernel) hk1 hc_10.2.2 hP1 hD1
      generalize H1 = H at hP hS ⊢
      have hP : va_P (dC, dI) vwCl [(xo_5_rrr ro it la le), (xI la cI 8 fl), (xI le cI 8 fe), (xJ it cJ 8 fi), (xI y0 cI 40 f0), (xI y1 cI 40 f1), (xI y2 cI 40 f2), (xI y3 cI 40 f3), (xI y4 cI 40 f4), (xI y5 cI 40 f5), (xI y6 cI 40 f6), (xI y7 cI 40 f7), (xo_7_rrrrrrrrrii x ro ta no ac im tr pl cs ak xf xgn_10)] H := hP
      have hD := dto hP hD
      have hX9 := cut2 (wc := [(xo_7_rrrrrrrrrii x ro ta no ac im tr pl cs ak xf xgn_10), (xo_5_rrr ro it la le), (xI la cI 8 fl), (xI le cI 8 fe), (xJ it cJ 8 fi), (xI y0 cI 40 f0), (xI y1 cI 40 f1), (xI y2 cI 40 f2), (xI y3 cI 40 f3), (xI y4 cI 40 f4), (xI y5 cI 40 f5), (xI y6 cI 40 f6), (xI y7 cI 40 f7)]) hP hD [12, 0, 1, 2, 3, 4, 5, 6, 7, 8, 9, 10, 11] (by decide +kernel) rfl
      exact W.iret (v := r_10) hx hb hr (fun t ht hW => ⟨⟨r_10, (), rfl, (lf_X7_drop_9 hfi hfe hj_1 f_5_1_0 hF_10_0 h_10), ⟨fl, xgn_10, va_Ht ht hX9.1, hX9.2, (lf_X7_drop_7 hfi hfe hj_1 f_5_1_0 hF_10_0 h_10), (lf_X7_drop_8 hfi hfe hj_1 f_5_1_0 hF_10_0 h_10)⟩⟩, hS.F ht⟩) hS.2.2 dX7_drop_26
theorem lf_X7_as_1 {nv0 : Int32} {nv1 : Int32} {nv2 : Int32} {nv3 : Int32} {nv5 : Int32} {nhh : Nat} {nww : Nat} {nkk : Nat} {ng1 : Nat → Int32} {ng2 : Nat → Int32} {ng3 : Nat → Int32} {ng4 : Nat → Int32} {ng5 : Nat → Int32} {k0 : Int32} {k1 : Int32} (nhb : nhh ≤ 999) (nwb : nww ≤ 6) (nkb : nkk ≤ 6) (hLv : okLv (nrm nv0 nv1 nv2 nv3 nhh nv5 nww nkk ng1 ng2 ng3 ng4 ng5)) (f_1_0_0 : (k0 < 0 ∨ (nI nkk) ≤ k0)) : (-1000001) = (a_as (nrm nv0 nv1 nv2 nv3 nhh nv5 nww nkk ng1 ng2 ng3 ng4 ng5) k0 k1) := by
  first
  | with_reducible exact as_a (as_g1 f_1_0_0)
  | omega
theorem lf_X7_as_2 {nv0 : Int32} {nv1 : Int32} {nv2 : Int32} {nv3 : Int32} {nv5 : Int32} {nhh : Nat} {nww : Nat} {nkk : Nat} {ng1 : Nat → Int32} {ng2 : Nat → Int32} {ng3 : Nat → Int32} {ng4 : Nat → Int32} {ng5 : Nat → Int32} {k1 : Int32} {j_1 : Nat} (nhb : nhh ≤ 999) (nwb : nww ≤ 6) (nkb : nkk ≤ 6) (hLv : okLv (nrm nv0 nv1 nv2 nv3 nhh nv5 nww nkk ng1 ng2 ng3 ng4 ng5)) (hj_1 : j_1 < nkk) (c_5 : k1 < 0) : (-1000001) = (a_as (nrm nv0 nv1 nv2 nv3 nhh nv5 nww nkk ng1 ng2 ng3 ng4 ng5) (nI j_1) k1) := by
  first
  | with_reducible exact as_a (as_g2 c_5)
  | omega
theorem lf_X7_as_3 {nv0 : Int32} {nv1 : Int32} {nv2 : Int32} {nv3 : Int32} {nv5 : Int32} {nhh : Nat} {nww : Nat} {nkk : Nat} {ng1 : Nat → Int32} {ng2 : Nat → Int32} {ng3 : Nat → Int32} {ng4 : Nat → Int32} {ng5 : Nat → Int32} {k1 : Int32} {j_1 : Nat} {ka : Nat} {xgn_10 : Int32} {r_10 : Int32} (nhb : nhh ≤ 999) (nwb : nww ≤ 6) (nkb : nkk ≤ 6) (hLv : okLv (nrm nv0 nv1 nv2 nv3 nhh nv5 nww nkk ng1 ng2 ng3 ng4 ng5)) (hj_1 : j_1 < nkk) (c_5 : ¬ (k1 < 0)) (c_6 : k1 ≤ 5) (hka1 : 1 ≤ ka) (hka5 : ka ≤ 5) (hke : ng2 j_1 = nI ka) (f_8_0_0 : ¬ isK (nI ka) k1) (hF_10_0 : (xgn_10 : Int32) = 3) (h_10 : r_10 = (-1000010 - 3)) : r_10 = (a_as (nrm nv0 nv1 nv2 nv3 nhh nv5 nww nkk ng1 ng2 ng3 ng4 ng5) (nI j_1) k1) := by
  first
  | with_reducible exact as_a (as_g2 c_5)
  | with_reducible exact as_a (as_g3 c_6)
  | with_reducible exact as_A3 hj_1 nkb c_5 c_6 hke f_8_0_0 h_10
  | omega
theorem lf_X7_as_4 {nv0 : Int32} {nv1 : Int32} {nv2 : Int32} {nv3 : Int32} {nv5 : Int32} {nhh : Nat} {nww : Nat} {nkk : Nat} {ng1 : Nat → Int32} {ng2 : Nat → Int32} {ng3 : Nat → Int32} {ng4 : Nat → Int32} {ng5 : Nat → Int32} {k1 : Int32} {j_1 : Nat} {ka : Nat} {xgn_12 : Int32} {r_12 : Int32} (nhb : nhh ≤ 999) (nwb : nww ≤ 6) (nkb : nkk ≤ 6) (hLv : okLv (nrm nv0 nv1 nv2 nv3 nhh nv5 nww nkk ng1 ng2 ng3 ng4 ng5)) (hj_1 : j_1 < nkk) (c_5 : ¬ (k1 < 0)) (c_6 : k1 ≤ 5) (hka1 : 1 ≤ ka) (hka5 : ka ≤ 5) (hke : ng2 j_1 = nI ka) (f_8_1_0 : isK (nI ka) k1) (hF_12_0 : (xgn_12 : Int32) = 0) (h_12 : r_12 = (nI j_1)) : r_12 = (a_as (nrm nv0 nv1 nv2 nv3 nhh nv5 nww nkk ng1 ng2 ng3 ng4 ng5) (nI j_1) k1) := by
  first
  | with_reducible exact as_a (as_g2 c_5)
  | with_reducible exact as_a (as_g3 c_6)
  | with_reducible exact as_A0 hj_1 nkb c_5 c_6 hke f_8_1_0 h_12
  | omega
theorem lf_X7_as_5 {nv0 : Int32} {nv1 : Int32} {nv2 : Int32} {nv3 : Int32} {nv5 : Int32} {nhh : Nat} {nww : Nat} {nkk : Nat} {ng1 : Nat → Int32} {ng2 : Nat → Int32} {ng3 : Nat → Int32} {ng4 : Nat → Int32} {ng5 : Nat → Int32} {k1 : Int32} {j_1 : Nat} (nhb : nhh ≤ 999) (nwb : nww ≤ 6) (nkb : nkk ≤ 6) (hLv : okLv (nrm nv0 nv1 nv2 nv3 nhh nv5 nww nkk ng1 ng2 ng3 ng4 ng5)) (hj_1 : j_1 < nkk) (c_5 : ¬ (k1 < 0)) (c_6 : ¬ (k1 ≤ 5)) : (-1000001) = (a_as (nrm nv0 nv1 nv2 nv3 nhh nv5 nww nkk ng1 ng2 ng3 ng4 ng5) (nI j_1) k1) := by
  first
  | with_reducible exact as_a (as_g2 c_5)
  | with_reducible exact as_a (as_g3 c_6)
  | omega
set_option maxHeartbeats 4000000 in
set_option maxRecDepth 100000 in
theorem r_X7_as (l : Launch) (dC : Nat → ClassId) (dI : Nat → Nat → Nat) (cI cZ cL cJ : ClassId) (sz : Nat) (x : Nat) (ro : Nat) (ta : Nat) (no : Nat) (ac : Nat) (im : Nat) (tr : Nat) (pl : Nat) (cs : Nat) (ak : Nat) (xf : Int32) (xg : Int32) (nv0 : Int32) (nv1 : Int32) (nv2 : Int32) (nv3 : Int32) (nv5 : Int32) (nhh : Nat) (nww : Nat) (nkk : Nat) (nb1 : Nat) (nb2 : Nat) (nb3 : Nat) (nb4 : Nat) (nb5 : Nat) (ng1 : Nat → Int32) (ng2 : Nat → Int32) (ng3 : Nat → Int32) (ng4 : Nat → Int32) (ng5 : Nat → Int32) (k0 : Int32) (k1 : Int32) (nhb : nhh ≤ 999) (nwb : nww ≤ 6) (nkb : nkk ≤ 6) (hLv : okLv (nrm nv0 nv1 nv2 nv3 nhh nv5 nww nkk ng1 ng2 ng3 ng4 ng5)) : Met l yX7_as wsX7_as ({ frames := 1, cells := 0, slots := 0, locals := 23 }) (va_Pc [.ref x, .int k0, .int k1] (fun U => U.heap.size = sz ∧ va_P (dC, dI) vwCl [(xo_7_rrrrrrrrrii x ro ta no ac im tr pl cs ak xf xg), (xo_3_iiiiiiiirrrrr no nv0 nv1 nv2 nv3 (nI nhh) nv5 (nI nww) (nI nkk) nb1 nb2 nb3 nb4 nb5), (xI nb1 cI 6 ng1), (xI nb2 cI 6 ng2), (xI nb3 cI 6 ng3), (xI nb4 cI 6 ng4), (xI nb5 cI 6 ng5)] U.heap ∧ va_K (dC, dI) vwCl [(cI, .int), (cZ, .boolean), (cL, .object RX3), (cJ, .array .int)] U ∧ va_D (fun _ => True) [(xo_7_rrrrrrrrrii x ro ta no ac im tr pl cs ak xf xg), (xo_3_iiiiiiiirrrrr no nv0 nv1 nv2 nv3 (nI nhh) nv5 (nI nww) (nI nkk) nb1 nb2 nb3 nb4 nb5), (xI nb1 cI 6 ng1), (xI nb2 cI 6 ng2), (xI nb3 cI 6 ng3), (xI nb4 cI 6 ng4), (xI nb5 cI 6 ng5)] ∧ stt (va_A [(xo_7_rrrrrrrrrii x ro ta no ac im tr pl cs ak xf xg), (xo_3_iiiiiiiirrrrr no nv0 nv1 nv2 nv3 (nI nhh) nv5 (nI nww) (nI nkk) nb1 nb2 nb3 nb4 nb5), (xI nb1 cI 6 ng1), (xI nb2 cI 6 ng2), (xI nb3 cI 6 ng3), (xI nb4 cI 6 ng4), (xI nb5 cI 6 ng5)] sz) U U.heap)) (va_Qi (fun r (_ : Unit) => r = (a_as (nrm nv0 nv1 nv2 nv3 nhh nv5 nww nkk ng1 ng2 ng3 ng4 ng5) k0 k1)) (fun (_ : Unit) t => ∃ (xgn : Int32), va_P (dC, dI) vwCl [(xo_7_rrrrrrrrrii x ro ta no ac im tr pl cs ak xf xgn), (xo_3_iiiiiiiirrrrr no nv0 nv1 nv2 nv3 (nI nhh) nv5 (nI nww) (nI nkk) nb1 nb2 nb3 nb4 nb5), (xI nb1 cI 6 ng1), (xI nb2 cI 6 ng2), (xI nb3 cI 6 ng3), (xI nb4 cI 6 ng4), (xI nb5 cI 6 ng5)] t.heap ∧ va_D (va_A [(xo_7_rrrrrrrrrii x ro ta no ac im tr pl cs ak xf xg), (xo_3_iiiiiiiirrrrr no nv0 nv1 nv2 nv3 (nI nhh) nv5 (nI nww) (nI nkk) nb1 nb2 nb3 nb4 nb5), (xI nb1 cI 6 ng1), (xI nb2 cI 6 ng2), (xI nb3 cI 6 ng3), (xI nb4 cI 6 ng4), (xI nb5 cI 6 ng5)] sz) [(xo_7_rrrrrrrrrii x ro ta no ac im tr pl cs ak xf xgn), (xo_3_iiiiiiiirrrrr no nv0 nv1 nv2 nv3 (nI nhh) nv5 (nI nww) (nI nkk) nb1 nb2 nb3 nb4 nb5), (xI nb1 cI 6 ng1), (xI nb2 cI 6 ng2), (xI nb3 cI 6 ng3), (xI nb4 cI 6 ng4), (xI nb5 cI 6 ng5)]) (va_A [(xo_7_rrrrrrrrrii x ro ta no ac im tr pl cs ak xf xg), (xo_3_iiiiiiiirrrrr no nv0 nv1 nv2 nv3 (nI nhh) nv5 (nI nww) (nI nkk) nb1 nb2 nb3 nb4 nb5), (xI nb1 cI 6 ng1), (xI nb2 cI 6 ng2), (xI nb3 cI 6 ng3), (xI nb4 cI 6 ng4), (xI nb5 cI 6 ng5)] sz)) 0 0 (va_A [(xo_7_rrrrrrrrrii x ro ta no ac im tr pl cs ak xf xg), (xo_3_iiiiiiiirrrrr no nv0 nv1 nv2 nv3 (nI nhh) nv5 (nI nww) (nI nkk) nb1 nb2 nb3 nb4 nb5), (xI nb1 cI 6 ng1), (xI nb2 cI 6 ng2), (xI nb3 cI 6 ng3), (xI nb4 cI 6 ng4), (xI nb5 cI 6 ng5)] sz) := by
  refine Met.ofW (cc := cX7_as) (maxL := 3) (ret := (some .int)) (by decide) rfl ?_
  intro p e s m args below meth c s₁ B hml hv
  obtain ⟨rfl, hsz, hP, hK, hD0, hst⟩ := hv
  have hx := B.exec
  have hb := B.bytes
  have hr := B.returns
  have hts := atoms_spec (ws := wsX7_as) B.pre
  have hown : s.vm.findClass RX7 = some m.cls := findClass_of_methodNamed B.named
  have hlocks := B.notSynchronized
  subst hsz
  have hD := hD0.self (sz := s.heap.size)
  generalize hAe : va_A [(xo_7_rrrrrrrrrii x ro ta no ac im tr pl cs ak xf xg), (xo_3_iiiiiiiirrrrr no nv0 nv1 nv2 nv3 (nI nhh) nv5 (nI nww) (nI nkk) nb1 nb2 nb3 nb4 nb5), (xI nb1 cI 6 ng1), (xI nb2 cI 6 ng2), (xI nb3 cI 6 ng3), (xI nb4 cI 6 ng4), (xI nb5 cI 6 ng5)] s.heap.size = A at hD hst ⊢
  have hA : ∀ q : Nat, s.heap.size ≤ q → A q := fun q h => by rw [← hAe]; exact Or.inr h
  have hS : va_S A s.heap s.heap [] := va_S.rf
  have hP : va_P (dC, dI) vwCl [(xo_7_rrrrrrrrrii x ro ta no ac im tr pl cs ak xf xg), (xo_3_iiiiiiiirrrrr no nv0 nv1 nv2 nv3 (nI nhh) nv5 (nI nww) (nI nkk) nb1 nb2 nb3 nb4 nb5), (xI nb1 cI 6 ng1), (xI nb2 cI 6 ng2), (xI nb3 cI 6 ng3), (xI nb4 cI 6 ng4), (xI nb5 cI 6 ng5)] s.heap := hP
  obtain ⟨⟨tb1, hZ1, hT1⟩, ⟨tb2, hZ2, hT2⟩, ⟨tb3, hZ3, hT3⟩, hNk⟩ := id hst
  have hl := lv_entry ([.ref x, .int k0, .int k1]) (n := 3) (Nat.le_of_ble_eq_true rfl)
  rw [lg_entry_eq]
  generalize (lg_sl ([.ref x, .int k0, .int k1]) ++ List.replicate (3 - (lg_sl ([.ref x, .int k0, .int k1])).length) Slot.unset).toArray = ls at hl ⊢
  have hl : lv_has ls 3 [(0, .ref x), (1, .int k0), (2, .int k1)] := hl
  refine lv_aload_n hx hb dX7_as_0 rfl (lv_at hl 0 rfl) ?_
  refine va_get (D := (dC, dI)) (ci := 7) (v := .ref no) (C := RX7) (T := TX7) (N := 11) hx hb hts i_X7_as_X7 hown hK hP 0 rfl rfl 2 (by decide) (hts _ mx_X7_as_1) (fun _ h9 => h9) rfl dX7_as_1 ?_
  refine lv_iload_n hx hb dX7_as_4 rfl (lv_at hl 1 rfl) ?_
  have hPc_1 := hP.sub (ws' := [(xo_3_iiiiiiiirrrrr no nv0 nv1 nv2 nv3 (nI nhh) nv5 (nI nww) (nI nkk) nb1 nb2 nb3 nb4 nb5), (xI nb1 cI 6 ng1), (xI nb2 cI 6 ng2), (xI nb3 cI 6 ng3), (xI nb4 cI 6 ng4), (xI nb5 cI 6 ng5)]) [1, 2, 3, 4, 5, 6] rfl
  refine vp_callSi (W.runV (As := [.int k0]) (rest := []) ⟨hx, hb, hml, hown, hts⟩ (r_X3_hasSound l dC dI cI cZ cL cJ no nv0 nv1 nv2 nv3 nv5 nhh nww nkk nb1 nb2 nb3 nb4 nb5 ng1 ng2 ng3 ng4 ng5 k0 (by omega) (nwb) (nkb)) (cwV 1 hts gX7_as_X3_hasSound rfl rfl rfl (by decide +kernel) ⟨Nat.le_of_ble_eq_true rfl, Nat.le_of_ble_eq_true rfl⟩) (pvP 3 1 hK hP rfl rfl hPc_1) rfl rfl hl.1 rfl (lv_room (Nat.le_of_ble_eq_true rfl)) dX7_as_5 ⟨Nat.le_of_ble_eq_true rfl, Nat.le_of_ble_eq_true rfl⟩) (fun r_1 h_1 => ?_)
  rcases h_1 with ⟨h_1, f_1_0_0⟩ | ⟨h_1, f_1_1_0⟩
  · subst h_1
    refine lv_if_eq (tgt := 20) hx hb dX7_as_8 (by decide) (fun _ => ?_) (fun c_ => absurd (by decide) c_)
    refine lv_ldc (own := RX7) (v := (-1000001)) hx hb hown (hts _ mx_X7_as_2) dX7_as_20 ?_
    have hX9 := cut2 (wc := [(xo_7_rrrrrrrrrii x ro ta no ac im tr pl cs ak xf xg), (xo_3_iiiiiiiirrrrr no nv0 nv1 nv2 nv3 (nI nhh) nv5 (nI nww) (nI nkk) nb1 nb2 nb3 nb4 nb5), (xI nb1 cI 6 ng1), (xI nb2 cI 6 ng2), (xI nb3 cI 6 ng3), (xI nb4 cI 6 ng4), (xI nb5 cI 6 ng5)]) hP hD [0, 1, 2, 3, 4, 5, 6] (by decide +kernel) rfl
    exact W.iret (v := (-1000001)) hx hb hr (fun t ht hW => ⟨⟨(-1000001), (), rfl, (lf_X7_as_1 nhb nwb nkb hLv f_1_0_0), ⟨xg, va_Ht ht hX9.1, hX9.2⟩⟩, hS.F ht⟩) hS.2.2 dX7_as_22
  · subst h_1
    obtain ⟨j_1, hj_1, rfl⟩ := vp_in_of f_1_1_0 (by omega)
    refine lv_if_eq (tgt := 20) hx hb dX7_as_8 (by decide) (fun c_ => absurd c_ (by decide)) (fun _ => ?_)
    refine lv_iload_n hx hb dX7_as_11 rfl (lv_at hl 2 rfl) ?_
    refine lv_if_lt (tgt := 20) hx hb dX7_as_12 (by decide) (fun c_5 => ?_) (fun c_5 => ?_)
    · skip
      refine lv_ldc (own := RX7) (v := (-1000001)) hx hb hown (hts _ mx_X7_as_2) dX7_as_20 ?_
      have hX9 := cut2 (wc := [(xo_7_rrrrrrrrrii x ro ta no ac im tr pl cs ak xf xg), (xo_3_iiiiiiiirrrrr no nv0 nv1 nv2 nv3 (nI nhh) nv5 (nI nww) (nI nkk) nb1 nb2 nb3 nb4 nb5), (xI nb1 cI 6 ng1), (xI nb2 cI 6 ng2), (xI nb3 cI 6 ng3), (xI nb4 cI 6 ng4), (xI nb5 cI 6 ng5)]) hP hD [0, 1, 2, 3, 4, 5, 6] (by decide +kernel) rfl
      exact W.iret (v := (-1000001)) hx hb hr (fun t ht hW => ⟨⟨(-1000001), (), rfl, (lf_X7_as_2 nhb nwb nkb hLv hj_1 c_5), ⟨xg, va_Ht ht hX9.1, hX9.2⟩⟩, hS.F ht⟩) hS.2.2 dX7_as_22
    · skip
      refine lv_iload_n hx hb dX7_as_15 rfl (lv_at hl 2 rfl) ?_
      refine lv_iconst (v := 5) hx hb dX7_as_16 (by decide) ?_
      refine lv_icmp_le (tgt := 23) hx hb dX7_as_17 (by decide) (fun c_6 => ?_) (fun c_6 => ?_)
      · skip
        refine lv_aload_n hx hb dX7_as_23 rfl (lv_at hl 0 rfl) ?_
        refine va_get (D := (dC, dI)) (ci := 7) (v := .ref no) (C := RX7) (T := TX7) (N := 11) hx hb hts i_X7_as_X7 hown hK hP 0 rfl rfl 2 (by decide) (hts _ mx_X7_as_1) (fun _ h9 => h9) rfl dX7_as_24 ?_
        refine va_get (D := (dC, dI)) (ci := 3) (v := .ref nb2) (C := RX3) (T := TX3) (N := 13) hx hb hts i_X7_as_X3 hown hK hP 1 rfl rfl 9 (by decide) (hts _ mx_X7_as_3) (fun _ h9 => h9) rfl dX7_as_27 ?_
        refine lv_iload_n hx hb dX7_as_30 rfl (lv_at hl 1 rfl) ?_
        refine va_iald hx hb hK hP 3 0 rfl rfl (vp_in_nI (by omega) (by omega)) dX7_as_31 ?_
        obtain ⟨ka, hka1, hka5, hke⟩ := kind_X (i := j_1) hLv nwb nkb (by omega) (by omega)
        refine lv_topi (fun v_7 e_7 => ?_)
        obtain rfl : v_7 = nI ka := (e_7.trans (congrArg ng2 (nI_clamp (by omega)))).trans hke
        refine lv_iload_n hx hb dX7_as_32 rfl (lv_at hl 2 rfl) ?_
        have hPc_8 := hP.sub (ws' := []) [] rfl
        refine vp_callSi (W.runS (As := [.int (nI ka), .int k1]) (rest := []) ⟨hx, hb, hml, hown, hts⟩ (r_X7_isOfKind l dC dI cI cZ cL cJ ka k1 (by omega) (by omega)) (va_cwS 2 hts gX7_as_X7_isOfKind rfl rfl rfl (by decide +kernel) ⟨Nat.le_of_ble_eq_true rfl, Nat.le_of_ble_eq_true rfl⟩) ⟨fun a U g mk q => by obtain ⟨q0, qP, qK, qS⟩ := q; exact ⟨q0, qP, va_K.moved (u := U) (U := U.calling g mk a) (Vm.Alike.refl U.vm) qK, stt_same rfl qS⟩, fun U hU hW => ⟨rfl, by rw [hU]; exact hPc_8, va_K.moved hW.alike hK, by rw [hU]; exact stt_warm hW (stt_narrow (stt_kept hst hS.2.1) (fun _ h => h.elim))⟩⟩ rfl rfl hl.1 rfl (lv_room (Nat.le_of_ble_eq_true rfl)) dX7_as_33 ⟨Nat.le_of_ble_eq_true rfl, Nat.le_of_ble_eq_true rfl⟩) (fun r_8 h_8 => ?_)
        rcases h_8 with ⟨h_8, f_8_0_0⟩ | ⟨h_8, f_8_1_0⟩
        · subst h_8
          refine lv_if_eq (tgt := 47) hx hb dX7_as_36 (by decide) (fun _ => ?_) (fun c_ => absurd (by decide) c_)
          refine lv_aload_n hx hb dX7_as_47 rfl (lv_at hl 0 rfl) ?_
          refine lv_iconst (v := 3) hx hb dX7_as_48 (by decide) ?_
          have hc_10 := cutW (wc := [(xo_7_rrrrrrrrrii x ro ta no ac im tr pl cs ak xf xg)]) hP hD hS hA [0] (by decide +kernel) rfl
          refine va_calli (va_runV (As := [.int 3]) (rest := []) ⟨hx, hb, hml, hown, hts⟩ (r_X7_found l dC dI cI cZ cL cJ s.heap.size x ro ta no ac im tr pl cs ak xf xg 3 ) (cwV 1 hts gX7_as_X7_found rfl rfl rfl (by decide +kernel) ⟨Nat.le_of_ble_eq_true rfl, Nat.le_of_ble_eq_true rfl⟩) (pvW 7 0 hK hP rfl rfl hc_10) rfl rfl hl.1 rfl (lv_room (Nat.le_of_ble_eq_true rfl)) dX7_as_49 ⟨Nat.le_of_ble_eq_true rfl, Nat.le_of_ble_eq_true rfl⟩) hS (fun q _ h => hc_10.2.2 q h) hc_10.2.2 (fun r_10 u_10 t_10 H1 locs ht hvm h_10 hB hz1 hk1 hS => ?_)
          refine xl_1_3 hB (fun xgn_10 hP1 hD1 hF_10_0 => ?_)
          clear hB
          rw [ht] at hP1
          obtain ⟨hP, hD⟩ := va_join (wr := [(xo_3_iiiiiiiirrrrr no nv0 nv1 nv2 nv3 (nI nhh) nv5 (nI nww) (nI nkk) nb1 nb2 nb3 nb4 nb5), (xI nb1 cI 6 ng1), (xI nb2 cI 6 ng2), (xI nb3 cI 6 ng3), (xI nb4 cI 6 ng4), (xI nb5 cI 6 ng5)]) (w1 := [(xo_7_rrrrrrrrrii x ro ta no ac im tr pl cs ak xf xgn_10)]) hP hD [0] [1, 2, 3, 4, 5, 6] rfl rfl (by decide +kernel) (by decide +kernel) hk1 hc_10.2.2 hP1 hD1
          generalize H1 = H at hP hS ⊢
          have hP : va_P (dC, dI) vwCl [(xo_3_iiiiiiiirrrrr no nv0 nv1 nv2 nv3 (nI nhh) nv5 (nI nww) (nI nkk) nb1 nb2 nb3 nb4 nb5), (xI nb1 cI 6 ng1), (xI nb2 cI 6 ng2), (xI nb3 cI 6 ng3), (xI nb4 cI 6 ng4), (xI nb5 cI 6 ng5), (xo_7_rrrrrrrrrii x ro ta no ac im tr pl cs ak xf xgn_10)] H := hP
          have hD := dto hP hD
          have hX9 := cut2 (wc := [(xo_7_rrrrrrrrrii x ro ta no ac im tr pl cs ak xf xgn_10), (xo_3_iiiiiiiirrrrr no nv0 nv1 nv2 nv3 (nI nhh) nv5 (nI nww) (nI nkk) nb1 nb2 nb3 nb4 nb5), (xI nb1 cI 6 ng1), (xI nb2 cI 6 ng2), (xI nb3 cI 6 ng3), (xI nb4 cI 6 ng4), (xI nb5 cI 6 ng5)]) hP hD [6, 0, 1, 2, 3, 4, 5] (by decide +kernel) rfl
          exact W.iret (v := r_10) hx hb hr (fun t ht hW => ⟨⟨r_10, (), rfl, (lf_X7_as_3 nhb nwb nkb hLv hj_1 c_5 c_6 hka1 hka5 hke f_8_0_0 hF_10_0 h_10), ⟨xgn_10, va_Ht ht hX9.1, hX9.2⟩⟩, hS.F ht⟩) hS.2.2 dX7_as_52
        · subst h_8
          refine lv_if_eq (tgt := 47) hx hb dX7_as_36 (by decide) (fun c_ => absurd c_ (by decide)) (fun _ => ?_)
          refine lv_aload_n hx hb dX7_as_39 rfl (lv_at hl 0 rfl) ?_
          refine lv_iload_n hx hb dX7_as_40 rfl (lv_at hl 1 rfl) ?_
          have hc_12 := cutW (wc := [(xo_7_rrrrrrrrrii x ro ta no ac im tr pl cs ak xf xg)]) hP hD hS hA [0] (by decide +kernel) rfl
          refine va_calli (va_runV (As := [.int (nI j_1)]) (rest := []) ⟨hx, hb, hml, hown, hts⟩ (r_X7_foundNothing l dC dI cI cZ cL cJ s.heap.size x ro ta no ac im tr pl cs ak xf xg (nI j_1) ) (cwV 1 hts gX7_as_X7_foundNothing rfl rfl rfl (by decide +kernel) ⟨Nat.le_of_ble_eq_true rfl, Nat.le_of_ble_eq_true rfl⟩) (pvW 7 0 hK hP rfl rfl hc_12) rfl rfl hl.1 rfl (lv_room (Nat.le_of_ble_eq_true rfl)) dX7_as_41 ⟨Nat.le_of_ble_eq_true rfl, Nat.le_of_ble_eq_true rfl⟩) hS (fun q _ h => hc_12.2.2 q h) hc_12.2.2 (fun r_12 u_12 t_12 H1 locs ht hvm h_12 hB hz1 hk1 hS => ?_)
          refine xl_1_3 hB (fun xgn_12 hP1 hD1 hF_12_0 => ?_)
          clear hB
          rw [ht] at hP1
          obtain ⟨hP, hD⟩ := va_join (wr := [(xo_3_iiiiiiiirrrrr no nv0 nv1 nv2 nv3 (nI nhh) nv5 (nI nww) (nI nkk) nb1 nb2 nb3 nb4 nb5), (xI nb1 cI 6 ng1), (xI nb2 cI 6 ng2), (xI nb3 cI 6 ng3), (xI nb4 cI 6 ng4), (xI nb5 cI 6 ng5)]) (w1 := [(xo_7_rrrrrrrrrii x ro ta no ac im tr pl cs ak xf xgn_12)]) hP hD [0] [1, 2, 3, 4, 5, 6] rfl rfl (by decide +kernel) (by decide +kernel) hk1 hc_12.2.2 hP1 hD1
          generalize H1 = H at hP hS ⊢
          have hP : va_P (dC, dI) vwCl [(xo_3_iiiiiiiirrrrr no nv0 nv1 nv2 nv3 (nI nhh) nv5 (nI nww) (nI nkk) nb1 nb2 nb3 nb4 nb5), (xI nb1 cI 6 ng1), (xI nb2 cI 6 ng2), (xI nb3 cI 6 ng3), (xI nb4 cI 6 ng4), (xI nb5 cI 6 ng5), (xo_7_rrrrrrrrrii x ro ta no ac im tr pl cs ak xf xgn_12)] H := hP
          have hD := dto hP hD
          refine lv_goto (tgt := 52) hx hb dX7_as_44 (by decide) ?_
          have hX9 := cut2 (wc := [(xo_7_rrrrrrrrrii x ro ta no ac im tr pl cs ak xf xgn_12), (xo_3_iiiiiiiirrrrr no nv0 nv1 nv2 nv3 (nI nhh) nv5 (nI nww) (nI nkk) nb1 nb2 nb3 nb4 nb5), (xI nb1 cI 6 ng1), (xI nb2 cI 6 ng2), (xI nb3 cI 6 ng3), (xI nb4 cI 6 ng4), (xI nb5 cI 6 ng5)]) hP hD [6, 0, 1, 2, 3, 4, 5] (by decide +kernel) rfl
          exact W.iret (v := r_12) hx hb hr (fun t ht hW => ⟨⟨r_12, (), rfl, (lf_X7_as_4 nhb nwb nkb hLv hj_1 c_5 c_6 hka1 hka5 hke f_8_1_0 hF_12_0 h_12), ⟨xgn_12, va_Ht ht hX9.1, hX9.2⟩⟩, hS.F ht⟩) hS.2.2 dX7_as_52
      · skip
        refine lv_ldc (own := RX7) (v := (-1000001)) hx hb hown (hts _ mx_X7_as_2) dX7_as_20 ?_
        have hX9 := cut2 (wc := [(xo_7_rrrrrrrrrii x ro ta no ac im tr pl cs ak xf xg), (xo_3_iiiiiiiirrrrr no nv0 nv1 nv2 nv3 (nI nhh) nv5 (nI nww) (nI nkk) nb1 nb2 nb3 nb4 nb5), (xI nb1 cI 6 ng1), (xI nb2 cI 6 ng2), (xI nb3 cI 6 ng3), (xI nb4 cI 6 ng4), (xI nb5 cI 6 ng5)]) hP hD [0, 1, 2, 3, 4, 5, 6] (by decide +kernel) rfl
        exact W.iret (v := (-1000001)) hx hb hr (fun t ht hW => ⟨⟨(-1000001), (), rfl, (lf_X7_as_5 nhb nwb nkb hLv hj_1 c_5 c_6), ⟨xg, va_Ht ht hX9.1, hX9.2⟩⟩, hS.F ht⟩) hS.2.2 dX7_as_22
theorem lf_X7_ask_1 {nv0 : Int32} {nv1 : Int32} {nv2 : Int32} {nv3 : Int32} {nv5 : Int32} {nhh : Nat} {nww : Nat} {nkk : Nat} {ng1 : Nat → Int32} {ng2 : Nat → Int32} {ng3 : Nat → Int32} {ng4 : Nat → Int32} {ng5 : Nat → Int32} {z : Nat} {k0 : Int32} (nhb : nhh ≤ 999) (nwb : nww ≤ 6) (nkb : nkk ≤ 6) (hLv : okLv (nrm nv0 nv1 nv2 nv3 nhh nv5 nww nkk ng1 ng2 ng3 ng4 ng5)) (hz : z ≤ 16) (f_1_0_0 : (k0 < 0 ∨ (nI nkk) ≤ k0)) : z ≤ 16 := by
  first
  | omega
  | with_reducible exact ak_n1 (Or.inl (nk_g f_1_0_0))
  | with_reducible exact ak_n2 (Or.inl (nk_g f_1_0_0))
  | with_reducible exact ak_a (Or.inl (nk_g f_1_0_0))
  | omega
theorem lf_X7_ask_2 {nv0 : Int32} {nv1 : Int32} {nv2 : Int32} {nv3 : Int32} {nv5 : Int32} {nhh : Nat} {nww : Nat} {nkk : Nat} {ng1 : Nat → Int32} {ng2 : Nat → Int32} {ng3 : Nat → Int32} {ng4 : Nat → Int32} {ng5 : Nat → Int32} {z : Nat} {ft : Nat → Int32} {k0 : Int32} {k1 : Int32} (nhb : nhh ≤ 999) (nwb : nww ≤ 6) (nkb : nkk ≤ 6) (hLv : okLv (nrm nv0 nv1 nv2 nv3 nhh nv5 nww nkk ng1 ng2 ng3 ng4 ng5)) (hz : z ≤ 16) (f_1_0_0 : (k0 < 0 ∨ (nI nkk) ≤ k0)) : z = (n_ask (nrm nv0 nv1 nv2 nv3 nhh nv5 nww nkk ng1 ng2 ng3 ng4 ng5) k0 k1 (z, ft)).1 := by
  first
  | omega
  | with_reducible exact ak_n1 (Or.inl (nk_g f_1_0_0))
  | with_reducible exact ak_n2 (Or.inl (nk_g f_1_0_0))
  | with_reducible exact ak_a (Or.inl (nk_g f_1_0_0))
  | omega
theorem lf_X7_ask_3 {nv0 : Int32} {nv1 : Int32} {nv2 : Int32} {nv3 : Int32} {nv5 : Int32} {nhh : Nat} {nww : Nat} {nkk : Nat} {ng1 : Nat → Int32} {ng2 : Nat → Int32} {ng3 : Nat → Int32} {ng4 : Nat → Int32} {ng5 : Nat → Int32} {z : Nat} {ft : Nat → Int32} {k0 : Int32} {k1 : Int32} (nhb : nhh ≤ 999) (nwb : nww ≤ 6) (nkb : nkk ≤ 6) (hLv : okLv (nrm nv0 nv1 nv2 nv3 nhh nv5 nww nkk ng1 ng2 ng3 ng4 ng5)) (hz : z ≤ 16) (f_1_0_0 : (k0 < 0 ∨ (nI nkk) ≤ k0)) : ft = (n_ask (nrm nv0 nv1 nv2 nv3 nhh nv5 nww nkk ng1 ng2 ng3 ng4 ng5) k0 k1 (z, ft)).2 := by
  first
  | omega
  | with_reducible exact ak_n1 (Or.inl (nk_g f_1_0_0))
  | with_reducible exact ak_n2 (Or.inl (nk_g f_1_0_0))
  | with_reducible exact ak_a (Or.inl (nk_g f_1_0_0))
  | omega
theorem lf_X7_ask_4 {nv0 : Int32} {nv1 : Int32} {nv2 : Int32} {nv3 : Int32} {nv5 : Int32} {nhh : Nat} {nww : Nat} {nkk : Nat} {ng1 : Nat → Int32} {ng2 : Nat → Int32} {ng3 : Nat → Int32} {ng4 : Nat → Int32} {ng5 : Nat → Int32} {z : Nat} {ft : Nat → Int32} {k0 : Int32} {k1 : Int32} (nhb : nhh ≤ 999) (nwb : nww ≤ 6) (nkb : nkk ≤ 6) (hLv : okLv (nrm nv0 nv1 nv2 nv3 nhh nv5 nww nkk ng1 ng2 ng3 ng4 ng5)) (hz : z ≤ 16) (f_1_0_0 : (k0 < 0 ∨ (nI nkk) ≤ k0)) : (-1000001) = (a_ask (nrm nv0 nv1 nv2 nv3 nhh nv5 nww nkk ng1 ng2 ng3 ng4 ng5) k0 k1 (z, ft)) := by
  first
  | omega
  | with_reducible exact ak_n1 (Or.inl (nk_g f_1_0_0))
  | with_reducible exact ak_n2 (Or.inl (nk_g f_1_0_0))
  | with_reducible exact ak_a (Or.inl (nk_g f_1_0_0))
  | omega
theorem lf_X7_ask_5 {nv0 : Int32} {nv1 : Int32} {nv2 : Int32} {nv3 : Int32} {nv5 : Int32} {nhh : Nat} {nww : Nat} {nkk : Nat} {ng1 : Nat → Int32} {ng2 : Nat → Int32} {ng3 : Nat → Int32} {ng4 : Nat → Int32} {ng5 : Nat → Int32} {z : Nat} {k1 : Int32} {j_1 : Nat} (nhb : nhh ≤ 999) (nwb : nww ≤ 6) (nkb : nkk ≤ 6) (hLv : okLv (nrm nv0 nv1 nv2 nv3 nhh nv5 nww nkk ng1 ng2 ng3 ng4 ng5)) (hz : z ≤ 16) (hj_1 : j_1 < nkk) (f_5_0_0 : ¬ (k1 = 0 ∨ k1 = 1)) : z ≤ 16 := by
  first
  | omega
  | with_reducible exact ak_n1 (Or.inr f_5_0_0)
  | with_reducible exact ak_n2 (Or.inr f_5_0_0)
  | with_reducible exact ak_a (Or.inr f_5_0_0)
  | omega
theorem lf_X7_ask_6 {nv0 : Int32} {nv1 : Int32} {nv2 : Int32} {nv3 : Int32} {nv5 : Int32} {nhh : Nat} {nww : Nat} {nkk : Nat} {ng1 : Nat → Int32} {ng2 : Nat → Int32} {ng3 : Nat → Int32} {ng4 : Nat → Int32} {ng5 : Nat → Int32} {z : Nat} {ft : Nat → Int32} {k1 : Int32} {j_1 : Nat} (nhb : nhh ≤ 999) (nwb : nww ≤ 6) (nkb : nkk ≤ 6) (hLv : okLv (nrm nv0 nv1 nv2 nv3 nhh nv5 nww nkk ng1 ng2 ng3 ng4 ng5)) (hz : z ≤ 16) (hj_1 : j_1 < nkk) (f_5_0_0 : ¬ (k1 = 0 ∨ k1 = 1)) : z = (n_ask (nrm nv0 nv1 nv2 nv3 nhh nv5 nww nkk ng1 ng2 ng3 ng4 ng5) (nI j_1) k1 (z, ft)).1 := by
  first
  | omega
  | with_reducible exact ak_n1 (Or.inr f_5_0_0)
  | with_reducible exact ak_n2 (Or.inr f_5_0_0)
  | with_reducible exact ak_a (Or.inr f_5_0_0)
  | omega
theorem lf_X7_ask_7 {nv0 : Int32} {nv1 : Int32} {nv2 : Int32} {nv3 : Int32} {nv5 : Int32} {nhh : Nat} {nww : Nat} {nkk : Nat} {ng1 : Nat → Int32} {ng2 : Nat → Int32} {ng3 : Nat → Int32} {ng4 : Nat → Int32} {ng5 : Nat → Int32} {z : Nat} {ft : Nat → Int32} {k1 : Int32} {j_1 : Nat} (nhb : nhh ≤ 999) (nwb : nww ≤ 6) (nkb : nkk ≤ 6) (hLv : okLv (nrm nv0 nv1 nv2 nv3 nhh nv5 nww nkk ng1 ng2 ng3 ng4 ng5)) (hz : z ≤ 16) (hj_1 : j_1 < nkk) (f_5_0_0 : ¬ (k1 = 0 ∨ k1 = 1)) : ft = (n_ask (nrm nv0 nv1 nv2 nv3 nhh nv5 nww nkk ng1 ng2 ng3 ng4 ng5) (nI j_1) k1 (z, ft)).2 := by
  first
  | omega
  | with_reducible exact ak_n1 (Or.inr f_5_0_0)
  | with_reducible exact ak_n2 (Or.inr f_5_0_0)
  | with_reducible exact ak_a (Or.inr f_5_0_0)
  | omega
theorem lf_X7_ask_8 {nv0 : Int32} {nv1 : Int32} {nv2 : Int32} {nv3 : Int32} {nv5 : Int32} {nhh : Nat} {nww : Nat} {nkk : Nat} {ng1 : Nat → Int32} {ng2 : Nat → Int32} {ng3 : Nat → Int32} {ng4 : Nat → Int32} {ng5 : Nat → Int32} {z : Nat} {ft : Nat → Int32} {k1 : Int32} {j_1 : Nat} (nhb : nhh ≤ 999) (nwb : nww ≤ 6) (nkb : nkk ≤ 6) (hLv : okLv (nrm nv0 nv1 nv2 nv3 nhh nv5 nww nkk ng1 ng2 ng3 ng4 ng5)) (hz : z ≤ 16) (hj_1 : j_1 < nkk) (f_5_0_0 : ¬ (k1 = 0 ∨ k1 = 1)) : (-1000001) = (a_ask (nrm nv0 nv1 nv2 nv3 nhh nv5 nww nkk ng1 ng2 ng3 ng4 ng5) (nI j_1) k1 (z, ft)) := by
  first
  | omega
  | with_reducible exact ak_n1 (Or.inr f_5_0_0)
  | with_reducible exact ak_n2 (Or.inr f_5_0_0)
  | with_reducible exact ak_a (Or.inr f_5_0_0)
  | omega
theorem lf_X7_ask_9 {nv0 : Int32} {nv1 : Int32} {nv2 : Int32} {nv3 : Int32} {nv5 : Int32} {nhh : Nat} {nww : Nat} {nkk : Nat} {ng1 : Nat → Int32} {ng2 : Nat → Int32} {ng3 : Nat → Int32} {ng4 : Nat → Int32} {ng5 : Nat → Int32} {z : Nat} {ft : Nat → Int32} {k1 : Int32} {j_1 : Nat} {ka : Nat} {zn_8 : Nat} {ftn_8 : Nat → Int32} {r_8 : Int32} (nhb : nhh ≤ 999) (nwb : nww ≤ 6) (nkb : nkk ≤ 6) (hLv : okLv (nrm nv0 nv1 nv2 nv3 nhh nv5 nww nkk ng1 ng2 ng3 ng4 ng5)) (hz : z ≤ 16) (hj_1 : j_1 < nkk) (f_5_1_0 : (k1 = 0 ∨ k1 = 1)) (hka1 : 1 ≤ ka) (hka5 : ka ≤ 5) (hke : ng2 j_1 = nI ka) (hF_8_0 : zn_8 ≤ 16) (hF_8_1 : (bgX (nI j_1) ka (ng3 j_1) (ng4 j_1) 16 (bfX ka k1) (0, ft)).2 = (zn_8, ftn_8)) (h_8 : r_8 = ((bgX (nI j_1) ka (ng3 j_1) (ng4 j_1) 16 (bfX ka k1) (0, ft)).1)) : zn_8 ≤ 16 := by
  first
  | omega
  | with_reducible exact ak_N1 nkb hj_1 hka1 hka5 hke f_5_1_0 hF_8_1
  | with_reducible exact ak_N2 nkb hj_1 hka1 hka5 hke f_5_1_0 hF_8_1
  | with_reducible exact ak_A nkb hj_1 hka1 hka5 hke f_5_1_0 h_8
  | omega
theorem lf_X7_ask_10 {nv0 : Int32} {nv1 : Int32} {nv2 : Int32} {nv3 : Int32} {nv5 : Int32} {nhh : Nat} {nww : Nat} {nkk : Nat} {ng1 : Nat → Int32} {ng2 : Nat → Int32} {ng3 : Nat → Int32} {ng4 : Nat → Int32} {ng5 : Nat → Int32} {z : Nat} {ft : Nat → Int32} {k1 : Int32} {j_1 : Nat} {ka : Nat} {zn_8 : Nat} {ftn_8 : Nat → Int32} {r_8 : Int32} (nhb : nhh ≤ 999) (nwb : nww ≤ 6) (nkb : nkk ≤ 6) (hLv : okLv (nrm nv0 nv1 nv2 nv3 nhh nv5 nww nkk ng1 ng2 ng3 ng4 ng5)) (hz : z ≤ 16) (hj_1 : j_1 < nkk) (f_5_1_0 : (k1 = 0 ∨ k1 = 1)) (hka1 : 1 ≤ ka) (hka5 : ka ≤ 5) (hke : ng2 j_1 = nI ka) (hF_8_0 : zn_8 ≤ 16) (hF_8_1 : (bgX (nI j_1) ka (ng3 j_1) (ng4 j_1) 16 (bfX ka k1) (0, ft)).2 = (zn_8, ftn_8)) (h_8 : r_8 = ((bgX (nI j_1) ka (ng3 j_1) (ng4 j_1) 16 (bfX ka k1) (0, ft)).1)) : zn_8 = (n_ask (nrm nv0 nv1 nv2 nv3 nhh nv5 nww nkk ng1 ng2 ng3 ng4 ng5) (nI j_1) k1 (z, ft)).1 := by
  first
  | omega
  | with_reducible exact ak_N1 nkb hj_1 hka1 hka5 hke f_5_1_0 hF_8_1
  | with_reducible exact ak_N2 nkb hj_1 hka1 hka5 hke f_5_1_0 hF_8_1
  | with_reducible exact ak_A nkb hj_1 hka1 hka5 hke f_5_1_0 h_8
  | omega
theorem lf_X7_ask_11 {nv0 : Int32} {nv1 : Int32} {nv2 : Int32} {nv3 : Int32} {nv5 : Int32} {nhh : Nat} {nww : Nat} {nkk : Nat} {ng1 : Nat → Int32} {ng2 : Nat → Int32} {ng3 : Nat → Int32} {ng4 : Nat → Int32} {ng5 : Nat → Int32} {z : Nat} {ft : Nat → Int32} {k1 : Int32} {j_1 : Nat} {ka : Nat} {zn_8 : Nat} {ftn_8 : Nat → Int32} {r_8 : Int32} (nhb : nhh ≤ 999) (nwb : nww ≤ 6) (nkb : nkk ≤ 6) (hLv : okLv (nrm nv0 nv1 nv2 nv3 nhh nv5 nww nkk ng1 ng2 ng3 ng4 ng5)) (hz : z ≤ 16) (hj_1 : j_1 < nkk) (f_5_1_0 : (k1 = 0 ∨ k1 = 1)) (hka1 : 1 ≤ ka) (hka5 : ka ≤ 5) (hke : ng2 j_1 = nI ka) (hF_8_0 : zn_8 ≤ 16) (hF_8_1 : (bgX (nI j_1) ka (ng3 j_1) (ng4 j_1) 16 (bfX ka k1) (0, ft)).2 = (zn_8, ftn_8)) (h_8 : r_8 = ((bgX (nI j_1) ka (ng3 j_1) (ng4 j_1) 16 (bfX ka k1) (0, ft)).1)) : ftn_8 = (n_ask (nrm nv0 nv1 nv2 nv3 nhh nv5 nww nkk ng1 ng2 ng3 ng4 ng5) (nI j_1) k1 (z, ft)).2 := by
  first
  | omega
  | with_reducible exact ak_N1 nkb hj_1 hka1 hka5 hke f_5_1_0 hF_8_1
  | with_reducible exact ak_N2 nkb hj_1 hka1 hka5 hke f_5_1_0 hF_8_1
  | with_reducible exact ak_A nkb hj_1 hka1 hka5 hke f_5_1_0 h_8
  | omega
theorem lf_X7_ask_12 {nv0 : Int32} {nv1 : Int32} {nv2 : Int32} {nv3 : Int32} {nv5 : Int32} {nhh : Nat} {nww : Nat} {nkk : Nat} {ng1 : Nat → Int32} {ng2 : Nat → Int32} {ng3 : Nat → Int32} {ng4 : Nat → Int32} {ng5 : Nat → Int32} {z : Nat} {ft : Nat → Int32} {k1 : Int32} {j_1 : Nat} {ka : Nat} {zn_8 : Nat} {ftn_8 : Nat → Int32} {r_8 : Int32} (nhb : nhh ≤ 999) (nwb : nww ≤ 6) (nkb : nkk ≤ 6) (hLv : okLv (nrm nv0 nv1 nv2 nv3 nhh nv5 nww nkk ng1 ng2 ng3 ng4 ng5)) (hz : z ≤ 16) (hj_1 : j_1 < nkk) (f_5_1_0 : (k1 = 0 ∨ k1 = 1)) (hka1 : 1 ≤ ka) (hka5 : ka ≤ 5) (hke : ng2 j_1 = nI ka) (hF_8_0 : zn_8 ≤ 16) (hF_8_1 : (bgX (nI j_1) ka (ng3 j_1) (ng4 j_1) 16 (bfX ka k1) (0, ft)).2 = (zn_8, ftn_8)) (h_8 : r_8 = ((bgX (nI j_1) ka (ng3 j_1) (ng4 j_1) 16 (bfX ka k1) (0, ft)).1)) : r_8 = (a_ask (nrm nv0 nv1 nv2 nv3 nhh nv5 nww nkk ng1 ng2 ng3 ng4 ng5) (nI j_1) k1 (z, ft)) := by
  first
  | omega
  | with_reducible exact ak_N1 nkb hj_1 hka1 hka5 hke f_5_1_0 hF_8_1
  | with_reducible exact ak_N2 nkb hj_1 hka1 hka5 hke f_5_1_0 hF_8_1
  | with_reducible exact ak_A nkb hj_1 hka1 hka5 hke f_5_1_0 h_8
  | omega
set_option maxHeartbeats 4000000 in
set_option maxRecDepth 100000 in
theorem r_X7_ask (l : Launch) (dC : Nat → ClassId) (dI : Nat → Nat → Nat) (cI cZ cL cJ : ClassId) (sz : Nat) (x : Nat) (ro : Nat) (ta : Nat) (no : Nat) (ac : Nat) (im : Nat) (tr : Nat) (pl : Nat) (cs : Nat) (ak : Nat) (xf : Int32) (xg : Int32) (nv0 : Int32) (nv1 : Int32) (nv2 : Int32) (nv3 : Int32) (nv5 : Int32) (nhh : Nat) (nww : Nat) (nkk : Nat) (nb1 : Nat) (nb2 : Nat) (nb3 : Nat) (nb4 : Nat) (nb5 : Nat) (ng1 : Nat → Int32) (ng2 : Nat → Int32) (ng3 : Nat → Int32) (ng4 : Nat → Int32) (ng5 : Nat → Int32) (tc : Nat) (z : Nat) (nu : Int32) (ki : Int32) (ce : Int32) (lo : Int32) (ft : Nat → Int32) (k0 : Int32) (k1 : Int32) (nhb : nhh ≤ 999) (nwb : nww ≤ 6) (nkb : nkk ≤ 6) (hLv : okLv (nrm nv0 nv1 nv2 nv3 nhh nv5 nww nkk ng1 ng2 ng3 ng4 ng5)) (hz : z ≤ 16) : Met l yX7_ask wsX7_ask ({ frames := 43, cells := 0, slots := 0, locals := 4095 }) (va_Pc [.ref x, .int k0, .int k1] (fun U => U.heap.size = sz ∧ va_P (dC, dI) vwCl [(xo_7_rrrrrrrrrii x ro ta no ac im tr pl cs ak xf xg), (xo_3_iiiiiiiirrrrr no nv0 nv1 nv2 nv3 (nI nhh) nv5 (nI nww) (nI nkk) nb1 nb2 nb3 nb4 nb5), (xI nb1 cI 6 ng1), (xI nb2 cI 6 ng2), (xI nb3 cI 6 ng3), (xI nb4 cI 6 ng4), (xI nb5 cI 6 ng5), (xo_1_riiiii ak tc (nI z) nu ki ce lo), (xI tc cI 16 ft)] U.heap ∧ va_K (dC, dI) vwCl [(cI, .int), (cZ, .boolean), (cL, .object RX3), (cJ, .array .int)] U ∧ va_D (fun _ => True) [(xo_7_rrrrrrrrrii x ro ta no ac im tr pl cs ak xf xg), (xo_3_iiiiiiiirrrrr no nv0 nv1 nv2 nv3 (nI nhh) nv5 (nI nww) (nI nkk) nb1 nb2 nb3 nb4 nb5), (xI nb1 cI 6 ng1), (xI nb2 cI 6 ng2), (xI nb3 cI 6 ng3), (xI nb4 cI 6 ng4), (xI nb5 cI 6 ng5), (xo_1_riiiii ak tc (nI z) nu ki ce lo), (xI tc cI 16 ft)] ∧ stt (va_A [(xo_7_rrrrrrrrrii x ro ta no ac im tr pl cs ak xf xg), (xo_3_iiiiiiiirrrrr no nv0 nv1 nv2 nv3 (nI nhh) nv5 (nI nww) (nI nkk) nb1 nb2 nb3 nb4 nb5), (xI nb1 cI 6 ng1), (xI nb2 cI 6 ng2), (xI nb3 cI 6 ng3), (xI nb4 cI 6 ng4), (xI nb5 cI 6 ng5), (xo_1_riiiii ak tc (nI z) nu ki ce lo), (xI tc cI 16 ft)] sz) U U.heap)) (va_Qi (fun r (_ : Unit) => r = (a_ask (nrm nv0 nv1 nv2 nv3 nhh nv5 nww nkk ng1 ng2 ng3 ng4 ng5) k0 k1 (z, ft))) (fun (_ : Unit) t => ∃ (zn : Nat) (nun : Int32) (kin : Int32) (cen : Int32) (lon : Int32) (ftn : Nat → Int32), va_P (dC, dI) vwCl [(xo_7_rrrrrrrrrii x ro ta no ac im tr pl cs ak xf xg), (xo_3_iiiiiiiirrrrr no nv0 nv1 nv2 nv3 (nI nhh) nv5 (nI nww) (nI nkk) nb1 nb2 nb3 nb4 nb5), (xI nb1 cI 6 ng1), (xI nb2 cI 6 ng2), (xI nb3 cI 6 ng3), (xI nb4 cI 6 ng4), (xI nb5 cI 6 ng5), (xo_1_riiiii ak tc (nI zn) nun kin cen lon), (xI tc cI 16 ftn)] t.heap ∧ va_D (va_A [(xo_7_rrrrrrrrrii x ro ta no ac im tr pl cs ak xf xg), (xo_3_iiiiiiiirrrrr no nv0 nv1 nv2 nv3 (nI nhh) nv5 (nI nww) (nI nkk) nb1 nb2 nb3 nb4 nb5), (xI nb1 cI 6 ng1), (xI nb2 cI 6 ng2), (xI nb3 cI 6 ng3), (xI nb4 cI 6 ng4), (xI nb5 cI 6 ng5), (xo_1_riiiii ak tc (nI z) nu ki ce lo), (xI tc cI 16 ft)] sz) [(xo_7_rrrrrrrrrii x ro ta no ac im tr pl cs ak xf xg), (xo_3_iiiiiiiirrrrr no nv0 nv1 nv2 nv3 (nI nhh) nv5 (nI nww) (nI nkk) nb1 nb2 nb3 nb4 nb5), (xI nb1 cI 6 ng1), (xI nb2 cI 6 ng2), (xI nb3 cI 6 ng3), (xI nb4 cI 6 ng4), (xI nb5 cI 6 ng5), (xo_1_riiiii ak tc (nI zn) nun kin cen lon), (xI tc cI 16 ftn)] ∧ zn ≤ 16 ∧ zn = (n_ask (nrm nv0 nv1 nv2 nv3 nhh nv5 nww nkk ng1 ng2 ng3 ng4 ng5) k0 k1 (z, ft)).1 ∧ ftn = (n_ask (nrm nv0 nv1 nv2 nv3 nhh nv5 nww nkk ng1 ng2 ng3 ng4 ng5) k0 k1 (z, ft)).2) (va_A [(xo_7_rrrrrrrrrii x ro ta no ac im tr pl cs ak xf xg), (xo_3_iiiiiiiirrrrr no nv0 nv1 nv2 nv3 (nI nhh) nv5 (nI nww) (nI nkk) nb1 nb2 nb3 nb4 nb5), (xI nb1 cI 6 ng1), (xI nb2 cI 6 ng2), (xI nb3 cI 6 ng3), (xI nb4 cI 6 ng4), (xI nb5 cI 6 ng5), (xo_1_riiiii ak tc (nI z) nu ki ce lo), (xI tc cI 16 ft)] sz)) 0 0 (va_A [(xo_7_rrrrrrrrrii x ro ta no ac im tr pl cs ak xf xg), (xo_3_iiiiiiiirrrrr no nv0 nv1 nv2 nv3 (nI nhh) nv5 (nI nww) (nI nkk) nb1 nb2 nb3 nb4 nb5), (xI nb1 cI 6 ng1), (xI nb2 cI 6 ng2), (xI nb3 cI 6 ng3), (xI nb4 cI 6 ng4), (xI nb5 cI 6 ng5), (xo_1_riiiii ak tc (nI z) nu ki ce lo), (xI tc cI 16 ft)] sz) := by
  refine Met.ofW (cc := cX7_ask) (maxL := 3) (ret := (some .int)) (by decide) rfl ?_
  intro p e s m args below meth c s₁ B hml hv
  obtain ⟨rfl, hsz, hP, hK, hD0, hst⟩ := hv
  have hx := B.exec
  have hb := B.bytes
  have hr := B.returns
  have hts := atoms_spec (ws := wsX7_ask) B.pre
  have hown : s.vm.findClass RX7 = some m.cls := findClass_of_methodNamed B.named
  have hlocks := B.notSynchronized
  subst hsz
  have hD := hD0.self (sz := s.heap.size)
  generalize hAe : va_A [(xo_7_rrrrrrrrrii x ro ta no ac im tr pl cs ak xf xg), (xo_3_iiiiiiiirrrrr no nv0 nv1 nv2 nv3 (nI nhh) nv5 (nI nww) (nI nkk) nb1 nb2 nb3 nb4 nb5), (xI nb1 cI 6 ng1), (xI nb2 cI 6 ng2), (xI nb3 cI 6 ng3), (xI nb4 cI 6 ng4), (xI nb5 cI 6 ng5), (xo_1_riiiii ak tc (nI z) nu ki ce lo), (xI tc cI 16 ft)] s.heap.size = A at hD hst ⊢
  have hA : ∀ q : Nat, s.heap.size ≤ q → A q := fun q h => by rw [← hAe]; exact Or.inr h
  have hS : va_S A s.heap s.heap [] := va_S.rf
  have hP : va_P (dC, dI) vwCl [(xo_7_rrrrrrrrrii x ro ta no ac im tr pl cs ak xf xg), (xo_3_iiiiiiiirrrrr no nv0 nv1 nv2 nv3 (nI nhh) nv5 (nI nww) (nI nkk) nb1 nb2 nb3 nb4 nb5), (xI nb1 cI 6 ng1), (xI nb2 cI 6 ng2), (xI nb3 cI 6 ng3), (xI nb4 cI 6 ng4), (xI nb5 cI 6 ng5), (xo_1_riiiii ak tc (nI z) nu ki ce lo), (xI tc cI 16 ft)] s.heap := hP
  obtain ⟨⟨tb1, hZ1, hT1⟩, ⟨tb2, hZ2, hT2⟩, ⟨tb3, hZ3, hT3⟩, hNk⟩ := id hst
  have hl := lv_entry ([.ref x, .int k0, .int k1]) (n := 3) (Nat.le_of_ble_eq_true rfl)
  rw [lg_entry_eq]
  generalize (lg_sl ([.ref x, .int k0, .int k1]) ++ List.replicate (3 - (lg_sl ([.ref x, .int k0, .int k1])).length) Slot.unset).toArray = ls at hl ⊢
  have hl : lv_has ls 3 [(0, .ref x), (1, .int k0), (2, .int k1)] := hl
  refine lv_aload_n hx hb dX7_ask_0 rfl (lv_at hl 0 rfl) ?_
  refine va_get (D := (dC, dI)) (ci := 7) (v := .ref no) (C := RX7) (T := TX7) (N := 11) hx hb hts i_X7_ask_X7 hown hK hP 0 rfl rfl 2 (by decide) (hts _ mx_X7_ask_1) (fun _ h9 => h9) rfl dX7_ask_1 ?_
  refine lv_iload_n hx hb dX7_ask_4 rfl (lv_at hl 1 rfl) ?_
  have hPc_1 := hP.sub (ws' := [(xo_3_iiiiiiiirrrrr no nv0 nv1 nv2 nv3 (nI nhh) nv5 (nI nww) (nI nkk) nb1 nb2 nb3 nb4 nb5), (xI nb1 cI 6 ng1), (xI nb2 cI 6 ng2), (xI nb3 cI 6 ng3), (xI nb4 cI 6 ng4), (xI nb5 cI 6 ng5)]) [1, 2, 3, 4, 5, 6] rfl
  refine vp_callSi (W.runV (As := [.int k0]) (rest := []) ⟨hx, hb, hml, hown, hts⟩ (r_X3_hasSound l dC dI cI cZ cL cJ no nv0 nv1 nv2 nv3 nv5 nhh nww nkk nb1 nb2 nb3 nb4 nb5 ng1 ng2 ng3 ng4 ng5 k0 (by omega) (nwb) (nkb)) (cwV 1 hts gX7_ask_X3_hasSound rfl rfl rfl (by decide +kernel) ⟨Nat.le_of_ble_eq_true rfl, Nat.le_of_ble_eq_true rfl⟩) (pvP 3 1 hK hP rfl rfl hPc_1) rfl rfl hl.1 rfl (lv_room (Nat.le_of_ble_eq_true rfl)) dX7_ask_5 ⟨Nat.le_of_ble_eq_true rfl, Nat.le_of_ble_eq_true rfl⟩) (fun r_1 h_1 => ?_)
  rcases h_1 with ⟨h_1, f_1_0_0⟩ | ⟨h_1, f_1_1_0⟩
  · subst h_1
    refine lv_if_eq (tgt := 18) hx hb dX7_ask_8 (by decide) (fun _ => ?_) (fun c_ => absurd (by decide) c_)
    refine lv_ldc (own := RX7) (v := (-1000001)) hx hb hown (hts _ mx_X7_ask_2) dX7_ask_18 ?_
    have hX9 := cut2 (wc := [(xo_7_rrrrrrrrrii x ro ta no ac im tr pl cs ak xf xg), (xo_3_iiiiiiiirrrrr no nv0 nv1 nv2 nv3 (nI nhh) nv5 (nI nww) (nI nkk) nb1 nb2 nb3 nb4 nb5), (xI nb1 cI 6 ng1), (xI nb2 cI 6 ng2), (xI nb3 cI 6 ng3), (xI nb4 cI 6 ng4), (xI nb5 cI 6 ng5), (xo_1_riiiii ak tc (nI z) nu ki ce lo), (xI tc cI 16 ft)]) hP hD [0, 1, 2, 3, 4, 5, 6, 7, 8] (by decide +kernel) rfl
    exact W.iret (v := (-1000001)) hx hb hr (fun t ht hW => ⟨⟨(-1000001), (), rfl, (lf_X7_ask_4 nhb nwb nkb hLv hz f_1_0_0), ⟨z, nu, ki, ce, lo, ft, va_Ht ht hX9.1, hX9.2, (lf_X7_ask_1 nhb nwb nkb hLv hz f_1_0_0), (lf_X7_ask_2 nhb nwb nkb hLv hz f_1_0_0), (lf_X7_ask_3 nhb nwb nkb hLv hz f_1_0_0)⟩⟩, hS.F ht⟩) hS.2.2 dX7_ask_20
  · subst h_1
    obtain ⟨j_1, hj_1, rfl⟩ := vp_in_of f_1_1_0 (by omega)
    refine lv_if_eq (tgt := 18) hx hb dX7_ask_8 (by decide) (fun c_ => absurd c_ (by decide)) (fun _ => ?_)
    refine lv_iload_n hx hb dX7_ask_11 rfl (lv_at hl 2 rfl) ?_
    have hPc_5 := hP.sub (ws' := []) [] rfl
    refine vp_callSi (W.runS (As := [.int k1]) (rest := []) ⟨hx, hb, hml, hown, hts⟩ (r_X1_isAsk l dC dI cI cZ cL cJ k1 ) (va_cwS 1 hts gX7_ask_X1_isAsk rfl rfl rfl (by decide +kernel) ⟨Nat.le_of_ble_eq_true rfl, Nat.le_of_ble_eq_true rfl⟩) (psP hK hPc_5) rfl rfl hl.1 rfl (lv_room (Nat.le_of_ble_eq_true rfl)) dX7_ask_12 ⟨Nat.le_of_ble_eq_true rfl, Nat.le_of_ble_eq_true rfl⟩) (fun r_5 h_5 => ?_)
    rcases h_5 with ⟨h_5, f_5_0_0⟩ | ⟨h_5, f_5_1_0⟩
    · subst h_5
      refine lv_if_ne (tgt := 21) hx hb dX7_ask_15 (by decide) (fun c_ => absurd (by decide) c_) (fun _ => ?_)
      refine lv_ldc (own := RX7) (v := (-1000001)) hx hb hown (hts _ mx_X7_ask_2) dX7_ask_18 ?_
      have hX9 := cut2 (wc := [(xo_7_rrrrrrrrrii x ro ta no ac im tr pl cs ak xf xg), (xo_3_iiiiiiiirrrrr no nv0 nv1 nv2 nv3 (nI nhh) nv5 (nI nww) (nI nkk) nb1 nb2 nb3 nb4 nb5), (xI nb1 cI 6 ng1), (xI nb2 cI 6 ng2), (xI nb3 cI 6 ng3), (xI nb4 cI 6 ng4), (xI nb5 cI 6 ng5), (xo_1_riiiii ak tc (nI z) nu ki ce lo), (xI tc cI 16 ft)]) hP hD [0, 1, 2, 3, 4, 5, 6, 7, 8] (by decide +kernel) rfl
      exact W.iret (v := (-1000001)) hx hb hr (fun t ht hW => ⟨⟨(-1000001), (), rfl, (lf_X7_ask_8 nhb nwb nkb hLv hz hj_1 f_5_0_0), ⟨z, nu, ki, ce, lo, ft, va_Ht ht hX9.1, hX9.2, (lf_X7_ask_5 nhb nwb nkb hLv hz hj_1 f_5_0_0), (lf_X7_ask_6 nhb nwb nkb hLv hz hj_1 f_5_0_0), (lf_X7_ask_7 nhb nwb nkb hLv hz hj_1 f_5_0_0)⟩⟩, hS.F ht⟩) hS.2.2 dX7_ask_20
    · subst h_5
      refine lv_if_ne (tgt := 21) hx hb dX7_ask_15 (by decide) (fun _ => ?_) (fun c_ => absurd c_ (by decide))
      refine lv_aload_n hx hb dX7_ask_21 rfl (lv_at hl 0 rfl) ?_
      refine va_get (D := (dC, dI)) (ci := 7) (v := .ref ak) (C := RX7) (T := TX7) (N := 11) hx hb hts i_X7_ask_X7 hown hK hP 0 rfl rfl 8 (by decide) (hts _ mx_X7_ask_3) (fun _ h9 => h9) rfl dX7_ask_22 ?_
      refine lv_aload_n hx hb dX7_ask_25 rfl (lv_at hl 0 rfl) ?_
      refine va_get (D := (dC, dI)) (ci := 7) (v := .ref no) (C := RX7) (T := TX7) (N := 11) hx hb hts i_X7_ask_X7 hown hK hP 0 rfl rfl 2 (by decide) (hts _ mx_X7_ask_1) (fun _ h9 => h9) rfl dX7_ask_26 ?_
      refine lv_iload_n hx hb dX7_ask_29 rfl (lv_at hl 1 rfl) ?_
      refine lv_iload_n hx hb dX7_ask_30 rfl (lv_at hl 2 rfl) ?_
      obtain ⟨ka, hka1, hka5, hke⟩ := kind_X (i := j_1) hLv nwb nkb (by omega) (by omega)
      have hc_8 := cutW (wc := [(xo_1_riiiii ak tc (nI z) nu ki ce lo), (xI tc cI 16 ft), (xo_3_iiiiiiiirrrrr no nv0 nv1 nv2 nv3 (nI nhh) nv5 (nI nww) (nI nkk) nb1 nb2 nb3 nb4 nb5), (xI nb1 cI 6 ng1), (xI nb2 cI 6 ng2), (xI nb3 cI 6 ng3), (xI nb4 cI 6 ng4), (xI nb5 cI 6 ng5)]) hP hD hS hA [7, 8, 1, 2, 3, 4, 5, 6] (by decide +kernel) rfl
      refine va_calli (va_runV (As := [.ref no, .int (nI j_1), .int k1]) (rest := []) ⟨hx, hb, hml, hown, hts⟩ (r_X1_answer l dC dI cI cZ cL cJ s.heap.size ak tc z nu ki ce lo ft no nv0 nv1 nv2 nv3 nv5 nhh nww nkk nb1 nb2 nb3 nb4 nb5 ng1 ng2 ng3 ng4 ng5 j_1 ka k1 (hz) (nhb) (nwb) (nkb) (by omega) (hka1) (hka5) (hke) (by assumption)) (cwV 3 hts gX7_ask_X1_answer rfl rfl rfl (by decide +kernel) ⟨Nat.le_of_ble_eq_true rfl, Nat.le_of_ble_eq_true rfl⟩) ⟨fun a U g mk q => by obtain ⟨q0, q1, qP, qK, qD, qS⟩ := q; exact ⟨q0, q1, qP, va_K.moved (u := U) (U := U.calling g mk a) (Vm.Alike.refl U.vm) qK, qD, stt_same rfl qS⟩, va_recv hK hP (ci := 1) (q0 := 7) rfl rfl, fun U hU hW => ⟨rfl, by rw [hU], by rw [hU]; exact hc_8.1, va_K.moved hW.alike hK, hc_8.2.1.weaken (fun _ _ _ _ => trivial), by rw [hU]; exact stt_warm hW (stt_narrow (stt_kept hst hS.2.1) hc_8.2.2)⟩⟩ rfl rfl hl.1 rfl (lv_room (Nat.le_of_ble_eq_true rfl)) dX7_ask_31 ⟨Nat.le_of_ble_eq_true rfl, Nat.le_of_ble_eq_true rfl⟩) hS (fun q _ h => hc_8.2.2 q h) hc_8.2.2 (fun r_8 u_8 t_8 H1 locs ht hvm h_8 hB hz1 hk1 hS => ?_)
      refine xl_6_4 hB (fun zn_8 nun_8 kin_8 cen_8 lon_8 ftn_8 hP1 hD1 hF_8_0 hF_8_1 => ?_)
      clear hB
      rw [ht] at hP1
      obtain ⟨hP, hD⟩ := va_join (wr := [(xo_7_rrrrrrrrrii x ro ta no ac im tr pl cs ak xf xg)]) (w1 := [(xo_1_riiiii ak tc (nI zn_8) nun_8 kin_8 cen_8 lon_8), (xI tc cI 16 ftn_8), (xo_3_iiiiiiiirrrrr no nv0 nv1 nv2 nv3 (nI nhh) nv5 (nI nww) (nI nkk) nb1 nb2 nb3 nb4 nb5), (xI nb1 cI 6 ng1), (xI nb2 cI 6 ng2), (xI nb3 cI 6 ng3), (xI nb4 cI 6 ng4), (xI nb5 cI 6 ng5)]) hP hD [7, 8, 1, 2, 3, 4, 5, 6] [0] rfl rfl (by decide +kernel) (by decide +kernel) hk1 hc_8.2.2 hP1 hD1
      generalize H1 = H at hP hS ⊢
      have hP : va_P (dC, dI) vwCl [(xo_7_rrrrrrrrrii x ro ta no ac im tr pl cs ak xf xg), (xo_1_riiiii ak tc (nI zn_8) nun_8 kin_8 cen_8 lon_8), (xI tc cI 16 ftn_8), (xo_3_iiiiiiiirrrrr no nv0 nv1 nv2 nv3 (nI nhh) nv5 (nI nww) (nI nkk) nb1 nb2 nb3 nb4 nb5), (xI nb1 cI 6 ng1), (xI nb2 cI 6 ng2), (xI nb3 cI 6 ng3), (xI nb4 cI 6 ng4), (xI nb5 cI 6 ng5)] H := hP
      have hD := dto hP hD
      have hX9 := cut2 (wc := [(xo_7_rrrrrrrrrii x ro ta no ac im tr pl cs ak xf xg), (xo_3_iiiiiiiirrrrr no nv0 nv1 nv2 nv3 (nI nhh) nv5 (nI nww) (nI nkk) nb1 nb2 nb3 nb4 nb5), (xI nb1 cI 6 ng1), (xI nb2 cI 6 ng2), (xI nb3 cI 6 ng3), (xI nb4 cI 6 ng4), (xI nb5 cI 6 ng5), (xo_1_riiiii ak tc (nI zn_8) nun_8 kin_8 cen_8 lon_8), (xI tc cI 16 ftn_8)]) hP hD [0, 3, 4, 5, 6, 7, 8, 1, 2] (by decide +kernel) rfl
      exact W.iret (v := r_8) hx hb hr (fun t ht hW => ⟨⟨r_8, (), rfl, (lf_X7_ask_12 nhb nwb nkb hLv hz hj_1 f_5_1_0 hka1 hka5 hke hF_8_0 hF_8_1 h_8), ⟨zn_8, nun_8, kin_8, cen_8, lon_8, ftn_8, va_Ht ht hX9.1, hX9.2, (lf_X7_ask_9 nhb nwb nkb hLv hz hj_1 f_5_1_0 hka1 hka5 hke hF_8_0 hF_8_1 h_8), (lf_X7_ask_10 nhb nwb nkb hLv hz hj_1 f_5_1_0 hka1 hka5 hke hF_8_0 hF_8_1 h_8), (lf_X7_ask_11 nhb nwb nkb hLv hz hj_1 f_5_1_0 hka1 hka5 hke hF_8_0 hF_8_1 h_8)⟩⟩, hS.F ht⟩) hS.2.2 dX7_ask_34
set_option maxHeartbeats 4000000 in
set_option maxRecDepth 100000 in
theorem r_X7_caps (l : Launch) (dC : Nat → ClassId) (dI : Nat → Nat → Nat) (cI cZ cL cJ : ClassId) (sz : Nat) (x : Nat) (ro : Nat) (ta : Nat) (no : Nat) (ac : Nat) (im : Nat) (tr : Nat) (pl : Nat) (cs : Nat) (ak : Nat) (xf : Int32) (xg : Int32) (nv0 : Int32) (nv1 : Int32) (nv2 : Int32) (nv3 : Int32) (nv5 : Int32) (nhh : Nat) (nww : Nat) (nkk : Nat) (nb1 : Nat) (nb2 : Nat) (nb3 : Nat) (nb4 : Nat) (nb5 : Nat) (ng1 : Nat → Int32) (ng2 : Nat → Int32) (ng3 : Nat → Int32) (ng4 : Nat → Int32) (ng5 : Nat → Int32) (be : Nat) (hrs : Int32) (wa : Int32) (br : Int32) (bw : Int32) (bt : Int32) (fb : Nat → Option Nat) (ad : Nat → Nat) (bd : Nat → Nat → Nat) (V : Nat → Nat → Int32) (G : Nat → Nat → Nat → Int32) (k0 : Int32) (k1 : Int32) (nhb : nhh ≤ 999) (nwb : nww ≤ 6) (nkb : nkk ≤ 6) (hLv : okLv (nrm nv0 nv1 nv2 nv3 nhh nv5 nww nkk ng1 ng2 ng3 ng4 ng5)) (hfb : ∀ i : Nat, i < 9 → fb i = some (ad i)) : Met l yX7_caps wsX7_caps ({ frames := 16, cells := 0, slots := 0, locals := 3049 }) (va_Pc [.ref x, .int k0, .int k1] (fun U => U.heap.size = sz ∧ va_P (dC, dI) vwCl (([(xo_7_rrrrrrrrrii x ro ta no ac im tr pl cs ak xf xg), (xo_3_iiiiiiiirrrrr no nv0 nv1 nv2 nv3 (nI nhh) nv5 (nI nww) (nI nkk) nb1 nb2 nb3 nb4 nb5), (xI nb1 cI 6 ng1), (xI nb2 cI 6 ng2), (xI nb3 cI 6 ng3), (xI nb4 cI 6 ng4), (xI nb5 cI 6 ng5), (xo_2_riiiii cs be hrs wa br bw bt), (xJ be cL 9 fb)] : va_W) ++ lvs cI 9 ad bd V G) U.heap ∧ va_K (dC, dI) vwCl [(cI, .int), (cZ, .boolean), (cL, .object RX3), (cJ, .array .int)] U ∧ va_D (fun _ => True) (([(xo_7_rrrrrrrrrii x ro ta no ac im tr pl cs ak xf xg), (xo_3_iiiiiiiirrrrr no nv0 nv1 nv2 nv3 (nI nhh) nv5 (nI nww) (nI nkk) nb1 nb2 nb3 nb4 nb5), (xI nb1 cI 6 ng1), (xI nb2 cI 6 ng2), (xI nb3 cI 6 ng3), (xI nb4 cI 6 ng4), (xI nb5 cI 6 ng5), (xo_2_riiiii cs be hrs wa br bw bt), (xJ be cL 9 fb)] : va_W) ++ lvs cI 9 ad bd V G))) (va_Qi (fun r (_ : Unit) => True) (fun (_ : Unit) t => ∃ (Vn : Nat → Nat → Int32) (Gn : Nat → Nat → Nat → Int32) (hrsn : Int32) (wan : Int32) (brn : Int32) (bwn : Int32) (btn : Int32), va_P (dC, dI) vwCl (([(xo_7_rrrrrrrrrii x ro ta no ac im tr pl cs ak xf xg), (xo_3_iiiiiiiirrrrr no nv0 nv1 nv2 nv3 (nI nhh) nv5 (nI nww) (nI nkk) nb1 nb2 nb3 nb4 nb5), (xI nb1 cI 6 ng1), (xI nb2 cI 6 ng2), (xI nb3 cI 6 ng3), (xI nb4 cI 6 ng4), (xI nb5 cI 6 ng5), (xo_2_riiiii cs be hrsn wan brn bwn btn), (xJ be cL 9 fb)] : va_W) ++ lvs cI 9 ad bd Vn Gn) t.heap ∧ va_D (va_A (([(xo_7_rrrrrrrrrii x ro ta no ac im tr pl cs ak xf xg), (xo_3_iiiiiiiirrrrr no nv0 nv1 nv2 nv3 (nI nhh) nv5 (nI nww) (nI nkk) nb1 nb2 nb3 nb4 nb5), (xI nb1 cI 6 ng1), (xI nb2 cI 6 ng2), (xI nb3 cI 6 ng3), (xI nb4 cI 6 ng4), (xI nb5 cI 6 ng5), (xo_2_riiiii cs be hrs wa br bw bt), (xJ be cL 9 fb)] : va_W) ++ lvs cI 9 ad bd V G) sz) (([(xo_7_rrrrrrrrrii x ro ta no ac im tr pl cs ak xf xg), (xo_3_iiiiiiiirrrrr no nv0 nv1 nv2 nv3 (nI nhh) nv5 (nI nww) (nI nkk) nb1 nb2 nb3 nb4 nb5), (xI nb1 cI 6 ng1), (xI nb2 cI 6 ng2), (xI nb3 cI 6 ng3), (xI nb4 cI 6 ng4), (xI nb5 cI 6 ng5), (xo_2_riiiii cs be hrsn wan brn bwn btn), (xJ be cL 9 fb)] : va_W) ++ lvs cI 9 ad bd Vn Gn)) (va_A (([(xo_7_rrrrrrrrrii x ro ta no ac im tr pl cs ak xf xg), (xo_3_iiiiiiiirrrrr no nv0 nv1 nv2 nv3 (nI nhh) nv5 (nI nww) (nI nkk) nb1 nb2 nb3 nb4 nb5), (xI nb1 cI 6 ng1), (xI nb2 cI 6 ng2), (xI nb3 cI 6 ng3), (xI nb4 cI 6 ng4), (xI nb5 cI 6 ng5), (xo_2_riiiii cs be hrs wa br bw bt), (xJ be cL 9 fb)] : va_W) ++ lvs cI 9 ad bd V G) sz)) 0 0 (va_A (([(xo_7_rrrrrrrrrii x ro ta no ac im tr pl cs ak xf xg), (xo_3_iiiiiiiirrrrr no nv0 nv1 nv2 nv3 (nI nhh) nv5 (nI nww) (nI nkk) nb1 nb2 nb3 nb4 nb5), (xI nb1 cI 6 ng1), (xI nb2 cI 6 ng2), (xI nb3 cI 6 ng3), (xI nb4 cI 6 ng4), (xI nb5 cI 6 ng5), (xo_2_riiiii cs be hrs wa br bw bt), (xJ be cL 9 fb)] : va_W) ++ lvs cI 9 ad bd V G) sz) := by
  refine Met.ofW (cc := cX7_caps) (maxL := 3) (ret := (some .int)) (by decide) rfl ?_
  intro p e s m args below meth c s₁ B hml hv
  obtain ⟨rfl, hsz, hP, hK, hD0⟩ := hv
  have hx := B.exec
  have hb := B.bytes
  have hr := B.returns
  have hts := atoms_spec (ws := wsX7_caps) B.pre
  have hown : s.vm.findClass RX7 = some m.cls := findClass_of_methodNamed B.named
  have hlocks := B.notSynchronized
  subst hsz
  have hD := hD0.self (sz := s.heap.size)
  generalize hAe : va_A (([(xo_7_rrrrrrrrrii x ro ta no ac im tr pl cs ak xf xg), (xo_3_iiiiiiiirrrrr no nv0 nv1 nv2 nv3 (nI nhh) nv5 (nI nww) (nI nkk) nb1 nb2 nb3 nb4 nb5), (xI nb1 cI 6 ng1), (xI nb2 cI 6 ng2), (xI nb3 cI 6 ng3), (xI nb4 cI 6 ng4), (xI nb5 cI 6 ng5), (xo_2_riiiii cs be hrs wa br bw bt), (xJ be cL 9 fb)] : va_W) ++ lvs cI 9 ad bd V G) s.heap.size = A at hD ⊢
  have hA : ∀ q : Nat, s.heap.size ≤ q → A q := fun q h => by rw [← hAe]; exact Or.inr h
  have hS : va_S A s.heap s.heap [] := va_S.rf
  have hP : va_P (dC, dI) vwCl (([(xo_7_rrrrrrrrrii x ro ta no ac im tr pl cs ak xf xg), (xo_3_iiiiiiiirrrrr no nv0 nv1 nv2 nv3 (nI nhh) nv5 (nI nww) (nI nkk) nb1 nb2 nb3 nb4 nb5), (xI nb1 cI 6 ng1), (xI nb2 cI 6 ng2), (xI nb3 cI 6 ng3), (xI nb4 cI 6 ng4), (xI nb5 cI 6 ng5), (xo_2_riiiii cs be hrs wa br bw bt), (xJ be cL 9 fb)] : va_W) ++ lvs cI 9 ad bd V G) s.heap := hP
  have hl := lv_entry ([.ref x, .int k0, .int k1]) (n := 3) (Nat.le_of_ble_eq_true rfl)
  rw [lg_entry_eq]
  generalize (lg_sl ([.ref x, .int k0, .int k1]) ++ List.replicate (3 - (lg_sl ([.ref x, .int k0, .int k1])).length) Slot.unset).toArray = ls at hl ⊢
  have hl : lv_has ls 3 [(0, .ref x), (1, .int k0), (2, .int k1)] := hl
  refine lv_aload_n hx hb dX7_caps_0 rfl (lv_at hl 0 rfl) ?_
  refine va_get (D := (dC, dI)) (ci := 7) (v := .ref no) (C := RX7) (T := TX7) (N := 11) hx hb hts i_X7_caps_X7 hown hK hP 0 rfl rfl 2 (by decide) (hts _ mx_X7_caps_1) (fun _ h9 => h9) rfl dX7_caps_1 ?_
  have hPc_1 := hP.sub (ws' := [(xo_3_iiiiiiiirrrrr no nv0 nv1 nv2 nv3 (nI nhh) nv5 (nI nww) (nI nkk) nb1 nb2 nb3 nb4 nb5), (xI nb1 cI 6 ng1), (xI nb2 cI 6 ng2), (xI nb3 cI 6 ng3), (xI nb4 cI 6 ng4), (xI nb5 cI 6 ng5)]) [1, 2, 3, 4, 5, 6] rfl
  refine vp_callSi (W.runV (As := []) (rest := []) ⟨hx, hb, hml, hown, hts⟩ (r_X3_isTold l dC dI cI cZ cL cJ no nv0 nv1 nv2 nv3 nv5 nhh nww nkk nb1 nb2 nb3 nb4 nb5 ng1 ng2 ng3 ng4 ng5 (by omega) (nwb) (nkb)) (cwV 0 hts gX7_caps_X3_isTold rfl rfl rfl (by decide +kernel) ⟨Nat.le_of_ble_eq_true rfl, Nat.le_of_ble_eq_true rfl⟩) (pvP 3 1 hK hP rfl rfl hPc_1) rfl rfl hl.1 rfl (lv_room (Nat.le_of_ble_eq_true rfl)) dX7_caps_4 ⟨Nat.le_of_ble_eq_true rfl, Nat.le_of_ble_eq_true rfl⟩) (fun r_1 h_1 => ?_)
  rcases h_1 with ⟨h_1, f_1_0_0⟩ | ⟨h_1, f_1_1_0⟩
  · subst h_1
    refine lv_if_ne (tgt := 13) hx hb dX7_caps_7 (by decide) (fun c_ => absurd (by decide) c_) (fun _ => ?_)
    refine lv_ldc (own := RX7) (v := (-1000002)) hx hb hown (hts _ mx_X7_caps_2) dX7_caps_10 ?_
    have hX9 := cut2P (cx := [(xo_7_rrrrrrrrrii x ro ta no ac im tr pl cs ak xf xg), (xo_3_iiiiiiiirrrrr no nv0 nv1 nv2 nv3 (nI nhh) nv5 (nI nww) (nI nkk) nb1 nb2 nb3 nb4 nb5), (xI nb1 cI 6 ng1), (xI nb2 cI 6 ng2), (xI nb3 cI 6 ng3), (xI nb4 cI 6 ng4), (xI nb5 cI 6 ng5), (xo_2_riiiii cs be hrs wa br bw bt), (xJ be cL 9 fb)]) hP hD [0, 1, 2, 3, 4, 5, 6, 7, 8] (by decide +kernel) rfl
    exact W.iret (v := (-1000002)) hx hb hr (fun t ht hW => ⟨⟨(-1000002), (), rfl, trivial, ⟨V, G, hrs, wa, br, bw, bt, va_Ht ht hX9.1, hX9.2⟩⟩, hS.F ht⟩) hS.2.2 dX7_caps_12
  · subst h_1
    refine lv_if_ne (tgt := 13) hx hb dX7_caps_7 (by decide) (fun _ => ?_) (fun c_ => absurd c_ (by decide))
    refine lv_iload_n hx hb dX7_caps_13 rfl (lv_at hl 1 rfl) ?_
    have hPc_4 := hP.sub (ws' := []) [] rfl
    refine vp_callSi (W.runS (As := [.int k0]) (rest := []) ⟨hx, hb, hml, hown, hts⟩ (r_X2_isLength l dC dI cI cZ cL cJ k0 ) (va_cwS 1 hts gX7_caps_X2_isLength rfl rfl rfl (by decide +kernel) ⟨Nat.le_of_ble_eq_true rfl, Nat.le_of_ble_eq_true rfl⟩) (psP hK hPc_4) rfl rfl hl.1 rfl (lv_room (Nat.le_of_ble_eq_true rfl)) dX7_caps_14 ⟨Nat.le_of_ble_eq_true rfl, Nat.le_of_ble_eq_true rfl⟩) (fun r_4 h_4 => ?_)
    rcases h_4 with ⟨h_4, f_4_0_0⟩ | ⟨h_4, f_4_1_0, f_4_1_1⟩
    · subst h_4
      refine lv_if_eq (tgt := 26) hx hb dX7_caps_17 (by decide) (fun _ => ?_) (fun c_ => absurd (by decide) c_)
      refine lv_ldc (own := RX7) (v := (-1000001)) hx hb hown (hts _ mx_X7_caps_3) dX7_caps_26 ?_
      have hX9 := cut2P (cx := [(xo_7_rrrrrrrrrii x ro ta no ac im tr pl cs ak xf xg), (xo_3_iiiiiiiirrrrr no nv0 nv1 nv2 nv3 (nI nhh) nv5 (nI nww) (nI nkk) nb1 nb2 nb3 nb4 nb5), (xI nb1 cI 6 ng1), (xI nb2 cI 6 ng2), (xI nb3 cI 6 ng3), (xI nb4 cI 6 ng4), (xI nb5 cI 6 ng5), (xo_2_riiiii cs be hrs wa br bw bt), (xJ be cL 9 fb)]) hP hD [0, 1, 2, 3, 4, 5, 6, 7, 8] (by decide +kernel) rfl
      exact W.iret (v := (-1000001)) hx hb hr (fun t ht hW => ⟨⟨(-1000001), (), rfl, trivial, ⟨V, G, hrs, wa, br, bw, bt, va_Ht ht hX9.1, hX9.2⟩⟩, hS.F ht⟩) hS.2.2 dX7_caps_28
    · subst h_4
      obtain ⟨j_4, hj_4, rfl⟩ := vp_in_of f_4_1_0 (by omega)
      refine lv_if_eq (tgt := 26) hx hb dX7_caps_17 (by decide) (fun c_ => absurd c_ (by decide)) (fun _ => ?_)
      refine lv_iload_n hx hb dX7_caps_20 rfl (lv_at hl 2 rfl) ?_
      refine lv_bipush (v := (-2)) hx hb dX7_caps_21 (by decide) ?_
      refine lv_icmp_ge (tgt := 29) hx hb dX7_caps_23 (by decide) (fun c_8 => ?_) (fun c_8 => ?_)
      · skip
        refine lv_iload_n hx hb dX7_caps_29 rfl (lv_at hl 2 rfl) ?_
        refine lv_iload_n hx hb dX7_caps_30 rfl (lv_at hl 1 rfl) ?_
        refine lv_icmp_lt (tgt := 37) hx hb dX7_caps_31 (by decide) (fun c_9 => ?_) (fun c_9 => ?_)
        · skip
          refine lv_aload_n hx hb dX7_caps_37 rfl (lv_at hl 0 rfl) ?_
          refine va_get (D := (dC, dI)) (ci := 7) (v := .ref cs) (C := RX7) (T := TX7) (N := 11) hx hb hts i_X7_caps_X7 hown hK hP 0 rfl rfl 7 (by decide) (hts _ mx_X7_caps_5) (fun _ h9 => h9) rfl dX7_caps_38 ?_
          refine lv_aload_n hx hb dX7_caps_41 rfl (lv_at hl 0 rfl) ?_
          refine va_get (D := (dC, dI)) (ci := 7) (v := .ref no) (C := RX7) (T := TX7) (N := 11) hx hb hts i_X7_caps_X7 hown hK hP 0 rfl rfl 2 (by decide) (hts _ mx_X7_caps_1) (fun _ h9 => h9) rfl dX7_caps_42 ?_
          refine lv_iload_n hx hb dX7_caps_45 rfl (lv_at hl 1 rfl) ?_
          refine lv_iconst (v := (-1)) hx hb dX7_caps_46 (by decide) ?_
          have hc_10 := cutP (cx := [(xo_2_riiiii cs be hrs wa br bw bt), (xJ be cL 9 fb), (xo_3_iiiiiiiirrrrr no nv0 nv1 nv2 nv3 (nI nhh) nv5 (nI nww) (nI nkk) nb1 nb2 nb3 nb4 nb5), (xI nb1 cI 6 ng1), (xI nb2 cI 6 ng2), (xI nb3 cI 6 ng3), (xI nb4 cI 6 ng4), (xI nb5 cI 6 ng5)]) hP hD hS hA [7, 8, 1, 2, 3, 4, 5, 6] (by decide +kernel) rfl
          refine va_callv (va_runV (As := [.ref no, .int (nI j_4), .int (-1)]) (rest := []) ⟨hx, hb, hml, hown, hts⟩ (r_X2_search l dC dI cI cZ cL cJ s.heap.size cs be hrs wa br bw bt fb ad bd V G no nv0 nv1 nv2 nv3 nv5 nhh nww nkk nb1 nb2 nb3 nb4 nb5 ng1 ng2 ng3 ng4 ng5 j_4 (-1) (hfb) (nhb) (nwb) (nkb) (by omega) (tX_N hLv nwb nkb (by omega) (by assumption))) (cwV 3 hts gX7_caps_X2_search rfl rfl rfl (by decide +kernel) ⟨Nat.le_of_ble_eq_true rfl, Nat.le_of_ble_eq_true rfl⟩) (pvW 2 7 hK hP rfl rfl hc_10) rfl rfl hl.1 rfl (lv_room (Nat.le_of_ble_eq_true rfl)) dX7_caps_47 ⟨Nat.le_of_ble_eq_true rfl, Nat.le_of_ble_eq_true rfl⟩) hS (fun q _ h => hc_10.2.2 q h) hc_10.2.2 (fun u_10 t_10 H1 locs ht hvm h_10 hB hz1 hk1 hS => ?_)
          refine xl_5_3 hB (fun Vn_10 Gn_10 brn_10 bwn_10 btn_10 hP1 hD1 hF_10_0 => ?_)
          clear hB
          rw [ht] at hP1
          obtain ⟨hP, hD⟩ := va_joinP (wr := [(xo_7_rrrrrrrrrii x ro ta no ac im tr pl cs ak xf xg)]) (rx := [(xo_2_riiiii cs be (nI j_4) (-1) brn_10 bwn_10 btn_10), (xJ be cL 9 fb), (xo_3_iiiiiiiirrrrr no nv0 nv1 nv2 nv3 (nI nhh) nv5 (nI nww) (nI nkk) nb1 nb2 nb3 nb4 nb5), (xI nb1 cI 6 ng1), (xI nb2 cI 6 ng2), (xI nb3 cI 6 ng3), (xI nb4 cI 6 ng4), (xI nb5 cI 6 ng5)]) (pl1 := lvs cI 9 ad bd Vn_10 Gn_10) hP hD [7, 8, 1, 2, 3, 4, 5, 6] [0] rfl rfl (by decide +kernel) (by decide +kernel) hk1 hc_10.2.2 hP1 hD1
          generalize H1 = H at hP hS ⊢
          have hP : va_P (dC, dI) vwCl (([(xo_7_rrrrrrrrrii x ro ta no ac im tr pl cs ak xf xg), (xo_2_riiiii cs be (nI j_4) (-1) brn_10 bwn_10 btn_10), (xJ be cL 9 fb), (xo_3_iiiiiiiirrrrr no nv0 nv1 nv2 nv3 (nI nhh) nv5 (nI nww) (nI nkk) nb1 nb2 nb3 nb4 nb5), (xI nb1 cI 6 ng1), (xI nb2 cI 6 ng2), (xI nb3 cI 6 ng3), (xI nb4 cI 6 ng4), (xI nb5 cI 6 ng5)] : va_W) ++ lvs cI 9 ad bd Vn_10 Gn_10) H := hP
          have hD := dto hP hD
          refine lv_iload_n hx hb dX7_caps_50 rfl (lv_at hl 2 rfl) ?_
          refine lv_iconst (v := (-1)) hx hb dX7_caps_51 (by decide) ?_
          refine lv_icmp_ne (tgt := 63) hx hb dX7_caps_52 (by decide) (fun c_11 => ?_) (fun c_11 => ?_)
          · skip
            refine lv_iload_n hx hb dX7_caps_63 rfl (lv_at hl 2 rfl) ?_
            refine lv_bipush (v := (-2)) hx hb dX7_caps_64 (by decide) ?_
            refine lv_icmp_ne (tgt := 79) hx hb dX7_caps_66 (by decide) (fun c_12 => ?_) (fun c_12 => ?_)
            · skip
              refine lv_aload_n hx hb dX7_caps_79 rfl (lv_at hl 0 rfl) ?_
              refine va_get (D := (dC, dI)) (ci := 7) (v := .ref cs) (C := RX7) (T := TX7) (N := 11) hx hb hts i_X7_caps_X7 hown hK hP 0 rfl rfl 7 (by decide) (hts _ mx_X7_caps_5) (fun _ h9 => h9) rfl dX7_caps_80 ?_
              refine lv_iload_n hx hb dX7_caps_83 rfl (lv_at hl 2 rfl) ?_
              have hPc_13 := hP.sub (ws' := [(xo_2_riiiii cs be (nI j_4) (-1) brn_10 bwn_10 btn_10)]) [1] rfl
              refine vp_callSi (W.runV (As := [.int k1]) (rest := []) ⟨hx, hb, hml, hown, hts⟩ (r_X2_bestCap l dC dI cI cZ cL cJ cs be (nI j_4) (-1) brn_10 bwn_10 btn_10 k1 ) (cwV 1 hts gX7_caps_X2_bestCap rfl rfl rfl (by decide +kernel) ⟨Nat.le_of_ble_eq_true rfl, Nat.le_of_ble_eq_true rfl⟩) (pvP 2 1 hK hP rfl rfl hPc_13) rfl rfl hl.1 rfl (lv_room (Nat.le_of_ble_eq_true rfl)) dX7_caps_84 ⟨Nat.le_of_ble_eq_true rfl, Nat.le_of_ble_eq_true rfl⟩) (fun r_13 h_13 => ?_)
              have hX9 := cut2P (cx := [(xo_7_rrrrrrrrrii x ro ta no ac im tr pl cs ak xf xg), (xo_3_iiiiiiiirrrrr no nv0 nv1 nv2 nv3 (nI nhh) nv5 (nI nww) (nI nkk) nb1 nb2 nb3 nb4 nb5), (xI nb1 cI 6 ng1), (xI nb2 cI 6 ng2), (xI nb3 cI 6 ng3), (xI nb4 cI 6 ng4), (xI nb5 cI 6 ng5), (xo_2_riiiii cs be (nI j_4) (-1) brn_10 bwn_10 btn_10), (xJ be cL 9 fb)]) hP hD [0, 3, 4, 5, 6, 7, 8, 1, 2] (by decide +kernel) rfl
              exact W.iret (v := r_13) hx hb hr (fun t ht hW => ⟨⟨r_13, (), rfl, trivial, ⟨Vn_10, Gn_10, (nI j_4), (-1), brn_10, bwn_10, btn_10, va_Ht ht hX9.1, hX9.2⟩⟩, hS.F ht⟩) hS.2.2 dX7_caps_87
            · skip
              refine lv_aload_n hx hb dX7_caps_69 rfl (lv_at hl 0 rfl) ?_
              refine va_get (D := (dC, dI)) (ci := 7) (v := .ref cs) (C := RX7) (T := TX7) (N := 11) hx hb hts i_X7_caps_X7 hown hK hP 0 rfl rfl 7 (by decide) (hts _ mx_X7_caps_5) (fun _ h9 => h9) rfl dX7_caps_70 ?_
              refine va_get (D := (dC, dI)) (ci := 2) (v := .int btn_10) (C := RX2) (T := TX2) (N := 6) hx hb hts i_X7_caps_X2 hown hK hP 1 rfl rfl 5 (by decide) (hts _ mx_X7_caps_7) (fun _ h9 => h9) rfl dX7_caps_73 ?_
              refine lv_goto (tgt := 87) hx hb dX7_caps_76 (by decide) ?_
              have hX9 := cut2P (cx := [(xo_7_rrrrrrrrrii x ro ta no ac im tr pl cs ak xf xg), (xo_3_iiiiiiiirrrrr no nv0 nv1 nv2 nv3 (nI nhh) nv5 (nI nww) (nI nkk) nb1 nb2 nb3 nb4 nb5), (xI nb1 cI 6 ng1), (xI nb2 cI 6 ng2), (xI nb3 cI 6 ng3), (xI nb4 cI 6 ng4), (xI nb5 cI 6 ng5), (xo_2_riiiii cs be (nI j_4) (-1) brn_10 bwn_10 btn_10), (xJ be cL 9 fb)]) hP hD [0, 3, 4, 5, 6, 7, 8, 1, 2] (by decide +kernel) rfl
              exact W.iret (v := btn_10) hx hb hr (fun t ht hW => ⟨⟨btn_10, (), rfl, trivial, ⟨Vn_10, Gn_10, (nI j_4), (-1), brn_10, bwn_10, btn_10, va_Ht ht hX9.1, hX9.2⟩⟩, hS.F ht⟩) hS.2.2 dX7_caps_87
          · skip
            refine lv_aload_n hx hb dX7_caps_55 rfl (lv_at hl 0 rfl) ?_
            refine va_get (D := (dC, dI)) (ci := 7) (v := .ref cs) (C := RX7) (T := TX7) (N := 11) hx hb hts i_X7_caps_X7 hown hK hP 0 rfl rfl 7 (by decide) (hts _ mx_X7_caps_5) (fun _ h9 => h9) rfl dX7_caps_56 ?_
            refine va_get (D := (dC, dI)) (ci := 2) (v := .int bwn_10) (C := RX2) (T := TX2) (N := 6) hx hb hts i_X7_caps_X2 hown hK hP 1 rfl rfl 4 (by decide) (hts _ mx_X7_caps_6) (fun _ h9 => h9) rfl dX7_caps_59 ?_
            have hX9 := cut2P (cx := [(xo_7_rrrrrrrrrii x ro ta no ac im tr pl cs ak xf xg), (xo_3_iiiiiiiirrrrr no nv0 nv1 nv2 nv3 (nI nhh) nv5 (nI nww) (nI nkk) nb1 nb2 nb3 nb4 nb5), (xI nb1 cI 6 ng1), (xI nb2 cI 6 ng2), (xI nb3 cI 6 ng3), (xI nb4 cI 6 ng4), (xI nb5 cI 6 ng5), (xo_2_riiiii cs be (nI j_4) (-1) brn_10 bwn_10 btn_10), (xJ be cL 9 fb)]) hP hD [0, 3, 4, 5, 6, 7, 8, 1, 2] (by decide +kernel) rfl
            exact W.iret (v := bwn_10) hx hb hr (fun t ht hW => ⟨⟨bwn_10, (), rfl, trivial, ⟨Vn_10, Gn_10, (nI j_4), (-1), brn_10, bwn_10, btn_10, va_Ht ht hX9.1, hX9.2⟩⟩, hS.F ht⟩) hS.2.2 dX7_caps_62
        · skip
          refine lv_ldc (own := RX7) (v := (-1000000)) hx hb hown (hts _ mx_X7_caps_4) dX7_caps_34 ?_
          have hX9 := cut2P (cx := [(xo_7_rrrrrrrrrii x ro ta no ac im tr pl cs ak xf xg), (xo_3_iiiiiiiirrrrr no nv0 nv1 nv2 nv3 (nI nhh) nv5 (nI nww) (nI nkk) nb1 nb2 nb3 nb4 nb5), (xI nb1 cI 6 ng1), (xI nb2 cI 6 ng2), (xI nb3 cI 6 ng3), (xI nb4 cI 6 ng4), (xI nb5 cI 6 ng5), (xo_2_riiiii cs be hrs wa br bw bt), (xJ be cL 9 fb)]) hP hD [0, 1, 2, 3, 4, 5, 6, 7, 8] (by decide +kernel) rfl
          exact W.iret (v := (-1000000)) hx hb hr (fun t ht hW => ⟨⟨(-1000000), (), rfl, trivial, ⟨V, G, hrs, wa, br, bw, bt, va_Ht ht hX9.1, hX9.2⟩⟩, hS.F ht⟩) hS.2.2 dX7_caps_36
      · skip
        refine lv_ldc (own := RX7) (v := (-1000001)) hx hb hown (hts _ mx_X7_caps_3) dX7_caps_26 ?_
        have hX9 := cut2P (cx := [(xo_7_rrrrrrrrrii x ro ta no ac im tr pl cs ak xf xg), (xo_3_iiiiiiiirrrrr no nv0 nv1 nv2 nv3 (nI nhh) nv5 (nI nww) (nI nkk) nb1 nb2 nb3 nb4 nb5), (xI nb1 cI 6 ng1), (xI nb2 cI 6 ng2), (xI nb3 cI 6 ng3), (xI nb4 cI 6 ng4), (xI nb5 cI 6 ng5), (xo_2_riiiii cs be hrs wa br bw bt), (xJ be cL 9 fb)]) hP hD [0, 1, 2, 3, 4, 5, 6, 7, 8] (by decide +kernel) rfl
        exact W.iret (v := (-1000001)) hx hb hr (fun t ht hW => ⟨⟨(-1000001), (), rfl, trivial, ⟨V, G, hrs, wa, br, bw, bt, va_Ht ht hX9.1, hX9.2⟩⟩, hS.F ht⟩) hS.2.2 dX7_caps_28
set_option maxHeartbeats 4000000 in
set_option maxRecDepth 100000 in
theorem r_X7_had (l : Launch) (dC : Nat → ClassId) (dI : Nat → Nat → Nat) (cI cZ cL cJ : ClassId) (sz : Nat) (x : Nat) (ro : Nat) (ta : Nat) (no : Nat) (ac : Nat) (im : Nat) (tr : Nat) (pl : Nat) (cs : Nat) (ak : Nat) (xf : Int32) (xg : Int32) (nv0 : Int32) (nv1 : Int32) (nv2 : Int32) (nv3 : Int32) (nv5 : Int32) (nhh : Nat) (nww : Nat) (nkk : Nat) (nb1 : Nat) (nb2 : Nat) (nb3 : Nat) (nb4 : Nat) (nb5 : Nat) (ng1 : Nat → Int32) (ng2 : Nat → Int32) (ng3 : Nat → Int32) (ng4 : Nat → Int32) (ng5 : Nat → Int32) (be : Nat) (hrs : Int32) (wa : Int32) (br : Int32) (bw : Int32) (bt : Int32) (fb : Nat → Option Nat) (ad : Nat → Nat) (bd : Nat → Nat → Nat) (V : Nat → Nat → Int32) (G : Nat → Nat → Nat → Int32) (k0 : Int32) (k1 : Int32) (nhb : nhh ≤ 999) (nwb : nww ≤ 6) (nkb : nkk ≤ 6) (hLv : okLv (nrm nv0 nv1 nv2 nv3 nhh nv5 nww nkk ng1 ng2 ng3 ng4 ng5)) (hfb : ∀ i : Nat, i < 9 → fb i = some (ad i)) : Met l yX7_had wsX7_had ({ frames := 16, cells := 0, slots := 0, locals := 3049 }) (va_Pc [.ref x, .int k0, .int k1] (fun U => U.heap.size = sz ∧ va_P (dC, dI) vwCl (([(xo_7_rrrrrrrrrii x ro ta no ac im tr pl cs ak xf xg), (xo_3_iiiiiiiirrrrr no nv0 nv1 nv2 nv3 (nI nhh) nv5 (nI nww) (nI nkk) nb1 nb2 nb3 nb4 nb5), (xI nb1 cI 6 ng1), (xI nb2 cI 6 ng2), (xI nb3 cI 6 ng3), (xI nb4 cI 6 ng4), (xI nb5 cI 6 ng5), (xo_2_riiiii cs be hrs wa br bw bt), (xJ be cL 9 fb)] : va_W) ++ lvs cI 9 ad bd V G) U.heap ∧ va_K (dC, dI) vwCl [(cI, .int), (cZ, .boolean), (cL, .object RX3), (cJ, .array .int)] U ∧ va_D (fun _ => True) (([(xo_7_rrrrrrrrrii x ro ta no ac im tr pl cs ak xf xg), (xo_3_iiiiiiiirrrrr no nv0 nv1 nv2 nv3 (nI nhh) nv5 (nI nww) (nI nkk) nb1 nb2 nb3 nb4 nb5), (xI nb1 cI 6 ng1), (xI nb2 cI 6 ng2), (xI nb3 cI 6 ng3), (xI nb4 cI 6 ng4), (xI nb5 cI 6 ng5), (xo_2_riiiii cs be hrs wa br bw bt), (xJ be cL 9 fb)] : va_W) ++ lvs cI 9 ad bd V G))) (va_Qi (fun r (_ : Unit) => True) (fun (_ : Unit) t => ∃ (Vn : Nat → Nat → Int32) (Gn : Nat → Nat → Nat → Int32) (hrsn : Int32) (wan : Int32) (brn : Int32) (bwn : Int32) (btn : Int32), va_P (dC, dI) vwCl (([(xo_7_rrrrrrrrrii x ro ta no ac im tr pl cs ak xf xg), (xo_3_iiiiiiiirrrrr no nv0 nv1 nv2 nv3 (nI nhh) nv5 (nI nww) (nI nkk) nb1 nb2 nb3 nb4 nb5), (xI nb1 cI 6 ng1), (xI nb2 cI 6 ng2), (xI nb3 cI 6 ng3), (xI nb4 cI 6 ng4), (xI nb5 cI 6 ng5), (xo_2_riiiii cs be hrsn wan brn bwn btn), (xJ be cL 9 fb)] : va_W) ++ lvs cI 9 ad bd Vn Gn) t.heap ∧ va_D (va_A (([(xo_7_rrrrrrrrrii x ro ta no ac im tr pl cs ak xf xg), (xo_3_iiiiiiiirrrrr no nv0 nv1 nv2 nv3 (nI nhh) nv5 (nI nww) (nI nkk) nb1 nb2 nb3 nb4 nb5), (xI nb1 cI 6 ng1), (xI nb2 cI 6 ng2), (xI nb3 cI 6 ng3), (xI nb4 cI 6 ng4), (xI nb5 cI 6 ng5), (xo_2_riiiii cs be hrs wa br bw bt), (xJ be cL 9 fb)] : va_W) ++ lvs cI 9 ad bd V G) sz) (([(xo_7_rrrrrrrrrii x ro ta no ac im tr pl cs ak xf xg), (xo_3_iiiiiiiirrrrr no nv0 nv1 nv2 nv3 (nI nhh) nv5 (nI nww) (nI nkk) nb1 nb2 nb3 nb4 nb5), (xI nb1 cI 6 ng1), (xI nb2 cI 6 ng2), (xI nb3 cI 6 ng3), (xI nb4 cI 6 ng4), (xI nb5 cI 6 ng5), (xo_2_riiiii cs be hrsn wan brn bwn btn), (xJ be cL 9 fb)] : va_W) ++ lvs cI 9 ad bd Vn Gn)) (va_A (([(xo_7_rrrrrrrrrii x ro ta no ac im tr pl cs ak xf xg), (xo_3_iiiiiiiirrrrr no nv0 nv1 nv2 nv3 (nI nhh) nv5 (nI nww) (nI nkk) nb1 nb2 nb3 nb4 nb5), (xI nb1 cI 6 ng1), (xI nb2 cI 6 ng2), (xI nb3 cI 6 ng3), (xI nb4 cI 6 ng4), (xI nb5 cI 6 ng5), (xo_2_riiiii cs be hrs wa br bw bt), (xJ be cL 9 fb)] : va_W) ++ lvs cI 9 ad bd V G) sz)) 0 0 (va_A (([(xo_7_rrrrrrrrrii x ro ta no ac im tr pl cs ak xf xg), (xo_3_iiiiiiiirrrrr no nv0 nv1 nv2 nv3 (nI nhh) nv5 (nI nww) (nI nkk) nb1 nb2 nb3 nb4 nb5), (xI nb1 cI 6 ng1), (xI nb2 cI 6 ng2), (xI nb3 cI 6 ng3), (xI nb4 cI 6 ng4), (xI nb5 cI 6 ng5), (xo_2_riiiii cs be hrs wa br bw bt), (xJ be cL 9 fb)] : va_W) ++ lvs cI 9 ad bd V G) sz) := by
  refine Met.ofW (cc := cX7_had) (maxL := 3) (ret := (some .int)) (by decide) rfl ?_
  intro p e s m args below meth c s₁ B hml hv
  obtain ⟨rfl, hsz, hP, hK, hD0⟩ := hv
  have hx := B.exec
  have hb := B.bytes
  have hr := B.returns
  have hts := atoms_spec (ws := wsX7_had) B.pre
  have hown : s.vm.findClass RX7 = some m.cls := findClass_of_methodNamed B.named
  have hlocks := B.notSynchronized
  subst hsz
  have hD := hD0.self (sz := s.heap.size)
  generalize hAe : va_A (([(xo_7_rrrrrrrrrii x ro ta no ac im tr pl cs ak xf xg), (xo_3_iiiiiiiirrrrr no nv0 nv1 nv2 nv3 (nI nhh) nv5 (nI nww) (nI nkk) nb1 nb2 nb3 nb4 nb5), (xI nb1 cI 6 ng1), (xI nb2 cI 6 ng2), (xI nb3 cI 6 ng3), (xI nb4 cI 6 ng4), (xI nb5 cI 6 ng5), (xo_2_riiiii cs be hrs wa br bw bt), (xJ be cL 9 fb)] : va_W) ++ lvs cI 9 ad bd V G) s.heap.size = A at hD ⊢
  have hA : ∀ q : Nat, s.heap.size ≤ q → A q := fun q h => by rw [← hAe]; exact Or.inr h
  have hS : va_S A s.heap s.heap [] := va_S.rf
  have hP : va_P (dC, dI) vwCl (([(xo_7_rrrrrrrrrii x ro ta no ac im tr pl cs ak xf xg), (xo_3_iiiiiiiirrrrr no nv0 nv1 nv2 nv3 (nI nhh) nv5 (nI nww) (nI nkk) nb1 nb2 nb3 nb4 nb5), (xI nb1 cI 6 ng1), (xI nb2 cI 6 ng2), (xI nb3 cI 6 ng3), (xI nb4 cI 6 ng4), (xI nb5 cI 6 ng5), (xo_2_riiiii cs be hrs wa br bw bt), (xJ be cL 9 fb)] : va_W) ++ lvs cI 9 ad bd V G) s.heap := hP
  have hl := lv_entry ([.ref x, .int k0, .int k1]) (n := 3) (Nat.le_of_ble_eq_true rfl)
  rw [lg_entry_eq]
  generalize (lg_sl ([.ref x, .int k0, .int k1]) ++ List.replicate (3 - (lg_sl ([.ref x, .int k0, .int k1])).length) Slot.unset).toArray = ls at hl ⊢
  have hl : lv_has ls 3 [(0, .ref x), (1, .int k0), (2, .int k1)] := hl
  refine lv_aload_n hx hb dX7_had_0 rfl (lv_at hl 0 rfl) ?_
  refine va_get (D := (dC, dI)) (ci := 7) (v := .ref no) (C := RX7) (T := TX7) (N := 11) hx hb hts i_X7_had_X7 hown hK hP 0 rfl rfl 2 (by decide) (hts _ mx_X7_had_1) (fun _ h9 => h9) rfl dX7_had_1 ?_
  have hPc_1 := hP.sub (ws' := [(xo_3_iiiiiiiirrrrr no nv0 nv1 nv2 nv3 (nI nhh) nv5 (nI nww) (nI nkk) nb1 nb2 nb3 nb4 nb5), (xI nb1 cI 6 ng1), (xI nb2 cI 6 ng2), (xI nb3 cI 6 ng3), (xI nb4 cI 6 ng4), (xI nb5 cI 6 ng5)]) [1, 2, 3, 4, 5, 6] rfl
  refine vp_callSi (W.runV (As := []) (rest := []) ⟨hx, hb, hml, hown, hts⟩ (r_X3_isTold l dC dI cI cZ cL cJ no nv0 nv1 nv2 nv3 nv5 nhh nww nkk nb1 nb2 nb3 nb4 nb5 ng1 ng2 ng3 ng4 ng5 (by omega) (nwb) (nkb)) (cwV 0 hts gX7_had_X3_isTold rfl rfl rfl (by decide +kernel) ⟨Nat.le_of_ble_eq_true rfl, Nat.le_of_ble_eq_true rfl⟩) (pvP 3 1 hK hP rfl rfl hPc_1) rfl rfl hl.1 rfl (lv_room (Nat.le_of_ble_eq_true rfl)) dX7_had_4 ⟨Nat.le_of_ble_eq_true rfl, Nat.le_of_ble_eq_true rfl⟩) (fun r_1 h_1 => ?_)
  rcases h_1 with ⟨h_1, f_1_0_0⟩ | ⟨h_1, f_1_1_0⟩
  · subst h_1
    refine lv_if_ne (tgt := 13) hx hb dX7_had_7 (by decide) (fun c_ => absurd (by decide) c_) (fun _ => ?_)
    refine lv_ldc (own := RX7) (v := (-1000002)) hx hb hown (hts _ mx_X7_had_2) dX7_had_10 ?_
    have hX9 := cut2P (cx := [(xo_7_rrrrrrrrrii x ro ta no ac im tr pl cs ak xf xg), (xo_3_iiiiiiiirrrrr no nv0 nv1 nv2 nv3 (nI nhh) nv5 (nI nww) (nI nkk) nb1 nb2 nb3 nb4 nb5), (xI nb1 cI 6 ng1), (xI nb2 cI 6 ng2), (xI nb3 cI 6 ng3), (xI nb4 cI 6 ng4), (xI nb5 cI 6 ng5), (xo_2_riiiii cs be hrs wa br bw bt), (xJ be cL 9 fb)]) hP hD [0, 1, 2, 3, 4, 5, 6, 7, 8] (by decide +kernel) rfl
    exact W.iret (v := (-1000002)) hx hb hr (fun t ht hW => ⟨⟨(-1000002), (), rfl, trivial, ⟨V, G, hrs, wa, br, bw, bt, va_Ht ht hX9.1, hX9.2⟩⟩, hS.F ht⟩) hS.2.2 dX7_had_12
  · subst h_1
    refine lv_if_ne (tgt := 13) hx hb dX7_had_7 (by decide) (fun _ => ?_) (fun c_ => absurd c_ (by decide))
    refine lv_iload_n hx hb dX7_had_13 rfl (lv_at hl 1 rfl) ?_
    refine lv_if_lt (tgt := 37) hx hb dX7_had_14 (by decide) (fun c_4 => ?_) (fun c_4 => ?_)
    · skip
      refine lv_ldc (own := RX7) (v := (-1000001)) hx hb hown (hts _ mx_X7_had_4) dX7_had_37 ?_
      have hX9 := cut2P (cx := [(xo_7_rrrrrrrrrii x ro ta no ac im tr pl cs ak xf xg), (xo_3_iiiiiiiirrrrr no nv0 nv1 nv2 nv3 (nI nhh) nv5 (nI nww) (nI nkk) nb1 nb2 nb3 nb4 nb5), (xI nb1 cI 6 ng1), (xI nb2 cI 6 ng2), (xI nb3 cI 6 ng3), (xI nb4 cI 6 ng4), (xI nb5 cI 6 ng5), (xo_2_riiiii cs be hrs wa br bw bt), (xJ be cL 9 fb)]) hP hD [0, 1, 2, 3, 4, 5, 6, 7, 8] (by decide +kernel) rfl
      exact W.iret (v := (-1000001)) hx hb hr (fun t ht hW => ⟨⟨(-1000001), (), rfl, trivial, ⟨V, G, hrs, wa, br, bw, bt, va_Ht ht hX9.1, hX9.2⟩⟩, hS.F ht⟩) hS.2.2 dX7_had_39
    · skip
      refine lv_iload_n hx hb dX7_had_17 rfl (lv_at hl 1 rfl) ?_
      refine lv_iconst (v := 1) hx hb dX7_had_18 (by decide) ?_
      refine lv_aload_n hx hb dX7_had_19 rfl (lv_at hl 0 rfl) ?_
      refine va_get (D := (dC, dI)) (ci := 7) (v := .ref no) (C := RX7) (T := TX7) (N := 11) hx hb hts i_X7_had_X7 hown hK hP 0 rfl rfl 2 (by decide) (hts _ mx_X7_had_1) (fun _ h9 => h9) rfl dX7_had_20 ?_
      refine va_get (D := (dC, dI)) (ci := 3) (v := .int (nI nkk)) (C := RX3) (T := TX3) (N := 13) hx hb hts i_X7_had_X3 hown hK hP 1 rfl rfl 7 (by decide) (hts _ mx_X7_had_3) (fun _ h9 => h9) rfl dX7_had_23 ?_
      refine lv_ishl hx hb dX7_had_26 ?_
      refine lv_topi (fun v_5 e_5 => ?_)
      refine lv_icmp_ge (tgt := 37) hx hb dX7_had_27 (by decide) (fun c_6 => ?_) (fun c_6 => ?_)
      · skip
        refine lv_ldc (own := RX7) (v := (-1000001)) hx hb hown (hts _ mx_X7_had_4) dX7_had_37 ?_
        have hX9 := cut2P (cx := [(xo_7_rrrrrrrrrii x ro ta no ac im tr pl cs ak xf xg), (xo_3_iiiiiiiirrrrr no nv0 nv1 nv2 nv3 (nI nhh) nv5 (nI nww) (nI nkk) nb1 nb2 nb3 nb4 nb5), (xI nb1 cI 6 ng1), (xI nb2 cI 6 ng2), (xI nb3 cI 6 ng3), (xI nb4 cI 6 ng4), (xI nb5 cI 6 ng5), (xo_2_riiiii cs be hrs wa br bw bt), (xJ be cL 9 fb)]) hP hD [0, 1, 2, 3, 4, 5, 6, 7, 8] (by decide +kernel) rfl
        exact W.iret (v := (-1000001)) hx hb hr (fun t ht hW => ⟨⟨(-1000001), (), rfl, trivial, ⟨V, G, hrs, wa, br, bw, bt, va_Ht ht hX9.1, hX9.2⟩⟩, hS.F ht⟩) hS.2.2 dX7_had_39
      · skip
        refine lv_iload_n hx hb dX7_had_30 rfl (lv_at hl 2 rfl) ?_
        have hPc_7 := hP.sub (ws' := []) [] rfl
        refine vp_callSi (W.runS (As := [.int k1]) (rest := []) ⟨hx, hb, hml, hown, hts⟩ (r_X2_isLength l dC dI cI cZ cL cJ k1 ) (va_cwS 1 hts gX7_had_X2_isLength rfl rfl rfl (by decide +kernel) ⟨Nat.le_of_ble_eq_true rfl, Nat.le_of_ble_eq_true rfl⟩) (psP hK hPc_7) rfl rfl hl.1 rfl (lv_room (Nat.le_of_ble_eq_true rfl)) dX7_had_31 ⟨Nat.le_of_ble_eq_true rfl, Nat.le_of_ble_eq_true rfl⟩) (fun r_7 h_7 => ?_)
        rcases h_7 with ⟨h_7, f_7_0_0⟩ | ⟨h_7, f_7_1_0, f_7_1_1⟩
        · subst h_7
          refine lv_if_ne (tgt := 40) hx hb dX7_had_34 (by decide) (fun c_ => absurd (by decide) c_) (fun _ => ?_)
          refine lv_ldc (own := RX7) (v := (-1000001)) hx hb hown (hts _ mx_X7_had_4) dX7_had_37 ?_
          have hX9 := cut2P (cx := [(xo_7_rrrrrrrrrii x ro ta no ac im tr pl cs ak xf xg), (xo_3_iiiiiiiirrrrr no nv0 nv1 nv2 nv3 (nI nhh) nv5 (nI nww) (nI nkk) nb1 nb2 nb3 nb4 nb5), (xI nb1 cI 6 ng1), (xI nb2 cI 6 ng2), (xI nb3 cI 6 ng3), (xI nb4 cI 6 ng4), (xI nb5 cI 6 ng5), (xo_2_riiiii cs be hrs wa br bw bt), (xJ be cL 9 fb)]) hP hD [0, 1, 2, 3, 4, 5, 6, 7, 8] (by decide +kernel) rfl
          exact W.iret (v := (-1000001)) hx hb hr (fun t ht hW => ⟨⟨(-1000001), (), rfl, trivial, ⟨V, G, hrs, wa, br, bw, bt, va_Ht ht hX9.1, hX9.2⟩⟩, hS.F ht⟩) hS.2.2 dX7_had_39
        · subst h_7
          obtain ⟨j_7, hj_7, rfl⟩ := vp_in_of f_7_1_0 (by omega)
          refine lv_if_ne (tgt := 40) hx hb dX7_had_34 (by decide) (fun _ => ?_) (fun c_ => absurd c_ (by decide))
          refine lv_aload_n hx hb dX7_had_40 rfl (lv_at hl 0 rfl) ?_
          refine va_get (D := (dC, dI)) (ci := 7) (v := .ref cs) (C := RX7) (T := TX7) (N := 11) hx hb hts i_X7_had_X7 hown hK hP 0 rfl rfl 7 (by decide) (hts _ mx_X7_had_5) (fun _ h9 => h9) rfl dX7_had_41 ?_
          refine lv_aload_n hx hb dX7_had_44 rfl (lv_at hl 0 rfl) ?_
          refine va_get (D := (dC, dI)) (ci := 7) (v := .ref no) (C := RX7) (T := TX7) (N := 11) hx hb hts i_X7_had_X7 hown hK hP 0 rfl rfl 2 (by decide) (hts _ mx_X7_had_1) (fun _ h9 => h9) rfl dX7_had_45 ?_
          refine lv_iload_n hx hb dX7_had_48 rfl (lv_at hl 2 rfl) ?_
          refine lv_iload_n hx hb dX7_had_49 rfl (lv_at hl 1 rfl) ?_
          have hc_11 := cutP (cx := [(xo_2_riiiii cs be hrs wa br bw bt), (xJ be cL 9 fb), (xo_3_iiiiiiiirrrrr no nv0 nv1 nv2 nv3 (nI nhh) nv5 (nI nww) (nI nkk) nb1 nb2 nb3 nb4 nb5), (xI nb1 cI 6 ng1), (xI nb2 cI 6 ng2), (xI nb3 cI 6 ng3), (xI nb4 cI 6 ng4), (xI nb5 cI 6 ng5)]) hP hD hS hA [7, 8, 1, 2, 3, 4, 5, 6] (by decide +kernel) rfl
          refine va_callv (va_runV (As := [.ref no, .int (nI j_7), .int k0]) (rest := []) ⟨hx, hb, hml, hown, hts⟩ (r_X2_search l dC dI cI cZ cL cJ s.heap.size cs be hrs wa br bw bt fb ad bd V G no nv0 nv1 nv2 nv3 nv5 nhh nww nkk nb1 nb2 nb3 nb4 nb5 ng1 ng2 ng3 ng4 ng5 j_7 k0 (hfb) (nhb) (nwb) (nkb) (by omega) (tX_N hLv nwb nkb (by omega) (by assumption))) (cwV 3 hts gX7_had_X2_search rfl rfl rfl (by decide +kernel) ⟨Nat.le_of_ble_eq_true rfl, Nat.le_of_ble_eq_true rfl⟩) (pvW 2 7 hK hP rfl rfl hc_11) rfl rfl hl.1 rfl (lv_room (Nat.le_of_ble_eq_true rfl)) dX7_had_50 ⟨Nat.le_of_ble_eq_true rfl, Nat.le_of_ble_eq_true rfl⟩) hS (fun q _ h => hc_11.2.2 q h) hc_11.2.2 (fun u_11 t_11 H1 locs ht hvm h_11 hB hz1 hk1 hS => ?_)
          refine xl_5_3 hB (fun Vn_11 Gn_11 brn_11 bwn_11 btn_11 hP1 hD1 hF_11_0 => ?_)
          clear hB
          rw [ht] at hP1
          obtain ⟨hP, hD⟩ := va_joinP (wr := [(xo_7_rrrrrrrrrii x ro ta no ac im tr pl cs ak xf xg)]) (rx := [(xo_2_riiiii cs be (nI j_7) k0 brn_11 bwn_11 btn_11), (xJ be cL 9 fb), (xo_3_iiiiiiiirrrrr no nv0 nv1 nv2 nv3 (nI nhh) nv5 (nI nww) (nI nkk) nb1 nb2 nb3 nb4 nb5), (xI nb1 cI 6 ng1), (xI nb2 cI 6 ng2), (xI nb3 cI 6 ng3), (xI nb4 cI 6 ng4), (xI nb5 cI 6 ng5)]) (pl1 := lvs cI 9 ad bd Vn_11 Gn_11) hP hD [7, 8, 1, 2, 3, 4, 5, 6] [0] rfl rfl (by decide +kernel) (by decide +kernel) hk1 hc_11.2.2 hP1 hD1
          generalize H1 = H at hP hS ⊢
          have hP : va_P (dC, dI) vwCl (([(xo_7_rrrrrrrrrii x ro ta no ac im tr pl cs ak xf xg), (xo_2_riiiii cs be (nI j_7) k0 brn_11 bwn_11 btn_11), (xJ be cL 9 fb), (xo_3_iiiiiiiirrrrr no nv0 nv1 nv2 nv3 (nI nhh) nv5 (nI nww) (nI nkk) nb1 nb2 nb3 nb4 nb5), (xI nb1 cI 6 ng1), (xI nb2 cI 6 ng2), (xI nb3 cI 6 ng3), (xI nb4 cI 6 ng4), (xI nb5 cI 6 ng5)] : va_W) ++ lvs cI 9 ad bd Vn_11 Gn_11) H := hP
          have hD := dto hP hD
          refine lv_aload_n hx hb dX7_had_53 rfl (lv_at hl 0 rfl) ?_
          refine va_get (D := (dC, dI)) (ci := 7) (v := .ref cs) (C := RX7) (T := TX7) (N := 11) hx hb hts i_X7_had_X7 hown hK hP 0 rfl rfl 7 (by decide) (hts _ mx_X7_had_5) (fun _ h9 => h9) rfl dX7_had_54 ?_
          refine va_get (D := (dC, dI)) (ci := 2) (v := .int bwn_11) (C := RX2) (T := TX2) (N := 6) hx hb hts i_X7_had_X2 hown hK hP 1 rfl rfl 4 (by decide) (hts _ mx_X7_had_6) (fun _ h9 => h9) rfl dX7_had_57 ?_
          refine lv_if_ne (tgt := 68) hx hb dX7_had_60 (by decide) (fun c_12 => ?_) (fun c_12 => ?_)
          · skip
            refine lv_aload_n hx hb dX7_had_68 rfl (lv_at hl 0 rfl) ?_
            refine va_get (D := (dC, dI)) (ci := 7) (v := .ref cs) (C := RX7) (T := TX7) (N := 11) hx hb hts i_X7_had_X7 hown hK hP 0 rfl rfl 7 (by decide) (hts _ mx_X7_had_5) (fun _ h9 => h9) rfl dX7_had_69 ?_
            refine va_get (D := (dC, dI)) (ci := 2) (v := .int btn_11) (C := RX2) (T := TX2) (N := 6) hx hb hts i_X7_had_X2 hown hK hP 1 rfl rfl 5 (by decide) (hts _ mx_X7_had_8) (fun _ h9 => h9) rfl dX7_had_72 ?_
            have hX9 := cut2P (cx := [(xo_7_rrrrrrrrrii x ro ta no ac im tr pl cs ak xf xg), (xo_3_iiiiiiiirrrrr no nv0 nv1 nv2 nv3 (nI nhh) nv5 (nI nww) (nI nkk) nb1 nb2 nb3 nb4 nb5), (xI nb1 cI 6 ng1), (xI nb2 cI 6 ng2), (xI nb3 cI 6 ng3), (xI nb4 cI 6 ng4), (xI nb5 cI 6 ng5), (xo_2_riiiii cs be (nI j_7) k0 brn_11 bwn_11 btn_11), (xJ be cL 9 fb)]) hP hD [0, 3, 4, 5, 6, 7, 8, 1, 2] (by decide +kernel) rfl
            exact W.iret (v := btn_11) hx hb hr (fun t ht hW => ⟨⟨btn_11, (), rfl, trivial, ⟨Vn_11, Gn_11, (nI j_7), k0, brn_11, bwn_11, btn_11, va_Ht ht hX9.1, hX9.2⟩⟩, hS.F ht⟩) hS.2.2 dX7_had_75
          · skip
            refine lv_ldc (own := RX7) (v := (-1000000)) hx hb hown (hts _ mx_X7_had_7) dX7_had_63 ?_
            refine lv_goto (tgt := 75) hx hb dX7_had_65 (by decide) ?_
            have hX9 := cut2P (cx := [(xo_7_rrrrrrrrrii x ro ta no ac im tr pl cs ak xf xg), (xo_3_iiiiiiiirrrrr no nv0 nv1 nv2 nv3 (nI nhh) nv5 (nI nww) (nI nkk) nb1 nb2 nb3 nb4 nb5), (xI nb1 cI 6 ng1), (xI nb2 cI 6 ng2), (xI nb3 cI 6 ng3), (xI nb4 cI 6 ng4), (xI nb5 cI 6 ng5), (xo_2_riiiii cs be (nI j_7) k0 brn_11 bwn_11 btn_11), (xJ be cL 9 fb)]) hP hD [0, 3, 4, 5, 6, 7, 8, 1, 2] (by decide +kernel) rfl
            exact W.iret (v := (-1000000)) hx hb hr (fun t ht hW => ⟨⟨(-1000000), (), rfl, trivial, ⟨Vn_11, Gn_11, (nI j_7), k0, brn_11, bwn_11, btn_11, va_Ht ht hX9.1, hX9.2⟩⟩, hS.F ht⟩) hS.2.2 dX7_had_75
set_option maxHeartbeats 4000000 in
set_option maxRecDepth 100000 in
theorem r_X4_comesTo (l : Launch) (dC : Nat → ClassId) (dI : Nat → Nat → Nat) (cI cZ cL cJ : ClassId) (sz : Nat) (pl : Nat) (bo : Nat) (ou : Nat) (phr : Int32) (bu0 : Int32) (bu1 : Int32) (bu2 : Int32) (bu3 : Int32) (bu4 : Int32) (bu5 : Int32) (bu6 : Int32) (bu7 : Int32) (ou0 : Int32) (ou1 : Int32) (ou2 : Int32) (ou3 : Int32) (ou4 : Int32) (ou5 : Int32) (ou6 : Int32) (ou7 : Int32) (bb1 : Nat) (ob1 : Nat) (bb2 : Nat) (ob2 : Nat) (bb3 : Nat) (ob3 : Nat) (bb4 : Nat) (ob4 : Nat) (bb5 : Nat) (ob5 : Nat) (bf1 : Nat → Int32) (of1 : Nat → Int32) (bf2 : Nat → Int32) (of2 : Nat → Int32) (bf3 : Nat → Int32) (of3 : Nat → Int32) (bf4 : Nat → Int32) (of4 : Nat → Int32) (bf5 : Nat → Int32) (of5 : Nat → Int32) (nv0 : Int32) (nv1 : Int32) (nv2 : Int32) (nv3 : Int32) (nv5 : Int32) (nhh : Nat) (nww : Nat) (nkk : Nat) (nb1 : Nat) (nb2 : Nat) (nb3 : Nat) (nb4 : Nat) (nb5 : Nat) (ng1 : Nat → Int32) (ng2 : Nat → Int32) (ng3 : Nat → Int32) (ng4 : Nat → Int32) (ng5 : Nat → Int32) (no : Nat) (t : Nat) (j : Nat) (nhb : nhh ≤ 999) (nwb : nww ≤ 6) (nkb : nkk ≤ 6) (ht : t ≤ 4) (hj : j ≤ 20) : Met l yX4_comesTo wsX4_comesTo ({ frames := 10, cells := 0, slots := 0, locals := 230 }) (va_Pc [.ref pl, .ref no, .int (nI t), .int (nI j)] (fun U => U.heap.size = sz ∧ va_P (dC, dI) vwCl [(xo_4_rri pl bo ou phr), (xo_3_iiiiiiiirrrrr bo bu0 bu1 bu2 bu3 bu4 bu5 bu6 bu7 bb1 bb2 bb3 bb4 bb5), (xI bb1 cI 6 bf1), (xI bb2 cI 6 bf2), (xI bb3 cI 6 bf3), (xI bb4 cI 6 bf4), (xI bb5 cI 6 bf5), (xo_3_iiiiiiiirrrrr ou ou0 ou1 ou2 ou3 ou4 ou5 ou6 ou7 ob1 ob2 ob3 ob4 ob5), (xI ob1 cI 6 of1), (xI ob2 cI 6 of2), (xI ob3 cI 6 of3), (xI ob4 cI 6 of4), (xI ob5 cI 6 of5), (xo_3_iiiiiiiirrrrr no nv0 nv1 nv2 nv3 (nI nhh) nv5 (nI nww) (nI nkk) nb1 nb2 nb3 nb4 nb5), (xI nb1 cI 6 ng1), (xI nb2 cI 6 ng2), (xI nb3 cI 6 ng3), (xI nb4 cI 6 ng4), (xI nb5 cI 6 ng5)] U.heap ∧ va_K (dC, dI) vwCl [(cI, .int), (cZ, .boolean), (cL, .object RX3), (cJ, .array .int)] U ∧ va_D (fun _ => True) [(xo_4_rri pl bo ou phr), (xo_3_iiiiiiiirrrrr bo bu0 bu1 bu2 bu3 bu4 bu5 bu6 bu7 bb1 bb2 bb3 bb4 bb5), (xI bb1 cI 6 bf1), (xI bb2 cI 6 bf2), (xI bb3 cI 6 bf3), (xI bb4 cI 6 bf4), (xI bb5 cI 6 bf5), (xo_3_iiiiiiiirrrrr ou ou0 ou1 ou2 ou3 ou4 ou5 ou6 ou7 ob1 ob2 ob3 ob4 ob5), (xI ob1 cI 6 of1), (xI ob2 cI 6 of2), (xI ob3 cI 6 of3), (xI ob4 cI 6 of4), (xI ob5 cI 6 of5), (xo_3_iiiiiiiirrrrr no nv0 nv1 nv2 nv3 (nI nhh) nv5 (nI nww) (nI nkk) nb1 nb2 nb3 nb4 nb5), (xI nb1 cI 6 ng1), (xI nb2 cI 6 ng2), (xI nb3 cI 6 ng3), (xI nb4 cI 6 ng4), (xI nb5 cI 6 ng5)])) (va_Qi (fun r (_ : Unit) => True) (fun (_ : Unit) t => ∃ (phrn : Int32) (bu0n : Int32) (bu1n : Int32) (bu2n : Int32) (bu3n : Int32) (bu4n : Int32) (bu5n : Int32) (bu6n : Int32) (bu7n : Int32) (ou0n : Int32) (ou1n : Int32) (ou2n : Int32) (ou3n : Int32) (ou4n : Int32) (ou5n : Int32) (ou6n : Int32) (ou7n : Int32) (bf1n : Nat → Int32) (of1n : Nat → Int32) (bf2n : Nat → Int32) (of2n : Nat → Int32) (bf3n : Nat → Int32) (of3n : Nat → Int32) (bf4n : Nat → Int32) (of4n : Nat → Int32) (bf5n : Nat → Int32) (of5n : Nat → Int32), va_P (dC, dI) vwCl [(xo_4_rri pl bo ou phrn), (xo_3_iiiiiiiirrrrr bo bu0n bu1n bu2n bu3n bu4n bu5n bu6n bu7n bb1 bb2 bb3 bb4 bb5), (xI bb1 cI 6 bf1n), (xI bb2 cI 6 bf2n), (xI bb3 cI 6 bf3n), (xI bb4 cI 6 bf4n), (xI bb5 cI 6 bf5n), (xo_3_iiiiiiiirrrrr ou ou0n ou1n ou2n ou3n ou4n ou5n ou6n ou7n ob1 ob2 ob3 ob4 ob5), (xI ob1 cI 6 of1n), (xI ob2 cI 6 of2n), (xI ob3 cI 6 of3n), (xI ob4 cI 6 of4n), (xI ob5 cI 6 of5n), (xo_3_iiiiiiiirrrrr no nv0 nv1 nv2 nv3 (nI nhh) nv5 (nI nww) (nI nkk) nb1 nb2 nb3 nb4 nb5), (xI nb1 cI 6 ng1), (xI nb2 cI 6 ng2), (xI nb3 cI 6 ng3), (xI nb4 cI 6 ng4), (xI nb5 cI 6 ng5)] t.heap ∧ va_D (va_A [(xo_4_rri pl bo ou phr), (xo_3_iiiiiiiirrrrr bo bu0 bu1 bu2 bu3 bu4 bu5 bu6 bu7 bb1 bb2 bb3 bb4 bb5), (xI bb1 cI 6 bf1), (xI bb2 cI 6 bf2), (xI bb3 cI 6 bf3), (xI bb4 cI 6 bf4), (xI bb5 cI 6 bf5), (xo_3_iiiiiiiirrrrr ou ou0 ou1 ou2 ou3 ou4 ou5 ou6 ou7 ob1 ob2 ob3 ob4 ob5), (xI ob1 cI 6 of1), (xI ob2 cI 6 of2), (xI ob3 cI 6 of3), (xI ob4 cI 6 of4), (xI ob5 cI 6 of5), (xo_3_iiiiiiiirrrrr no nv0 nv1 nv2 nv3 (nI nhh) nv5 (nI nww) (nI nkk) nb1 nb2 nb3 nb4 nb5), (xI nb1 cI 6 ng1), (xI nb2 cI 6 ng2), (xI nb3 cI 6 ng3), (xI nb4 cI 6 ng4), (xI nb5 cI 6 ng5)] sz) [(xo_4_rri pl bo ou phrn), (xo_3_iiiiiiiirrrrr bo bu0n bu1n bu2n bu3n bu4n bu5n bu6n bu7n bb1 bb2 bb3 bb4 bb5), (xI bb1 cI 6 bf1n), (xI bb2 cI 6 bf2n), (xI bb3 cI 6 bf3n), (xI bb4 cI 6 bf4n), (xI bb5 cI 6 bf5n), (xo_3_iiiiiiiirrrrr ou ou0n ou1n ou2n ou3n ou4n ou5n ou6n ou7n ob1 ob2 ob3 ob4 ob5), (xI ob1 cI 6 of1n), (xI ob2 cI 6 of2n), (xI ob3 cI 6 of3n), (xI ob4 cI 6 of4n), (xI ob5 cI 6 of5n), (xo_3_iiiiiiiirrrrr no nv0 nv1 nv2 nv3 (nI nhh) nv5 (nI nww) (nI nkk) nb1 nb2 nb3 nb4 nb5), (xI nb1 cI 6 ng1), (xI nb2 cI 6 ng2), (xI nb3 cI 6 ng3), (xI nb4 cI 6 ng4), (xI nb5 cI 6 ng5)]) (va_A [(xo_4_rri pl bo ou phr), (xo_3_iiiiiiiirrrrr bo bu0 bu1 bu2 bu3 bu4 bu5 bu6 bu7 bb1 bb2 bb3 bb4 bb5), (xI bb1 cI 6 bf1), (xI bb2 cI 6 bf2), (xI bb3 cI 6 bf3), (xI bb4 cI 6 bf4), (xI bb5 cI 6 bf5), (xo_3_iiiiiiiirrrrr ou ou0 ou1 ou2 ou3 ou4 ou5 ou6 ou7 ob1 ob2 ob3 ob4 ob5), (xI ob1 cI 6 of1), (xI ob2 cI 6 of2), (xI ob3 cI 6 of3), (xI ob4 cI 6 of4), (xI ob5 cI 6 of5), (xo_3_iiiiiiiirrrrr no nv0 nv1 nv2 nv3 (nI nhh) nv5 (nI nww) (nI nkk) nb1 nb2 nb3 nb4 nb5), (xI nb1 cI 6 ng1), (xI nb2 cI 6 ng2), (xI nb3 cI 6 ng3), (xI nb4 cI 6 ng4), (xI nb5 cI 6 ng5)] sz)) 0 0 (va_A [(xo_4_rri pl bo ou phr), (xo_3_iiiiiiiirrrrr bo bu0 bu1 bu2 bu3 bu4 bu5 bu6 bu7 bb1 bb2 bb3 bb4 bb5), (xI bb1 cI 6 bf1), (xI bb2 cI 6 bf2), (xI bb3 cI 6 bf3), (xI bb4 cI 6 bf4), (xI bb5 cI 6 bf5), (xo_3_iiiiiiiirrrrr ou ou0 ou1 ou2 ou3 ou4 ou5 ou6 ou7 ob1 ob2 ob3 ob4 ob5), (xI ob1 cI 6 of1), (xI ob2 cI 6 of2), (xI ob3 cI 6 of3), (xI ob4 cI 6 of4), (xI ob5 cI 6 of5), (xo_3_iiiiiiiirrrrr no nv0 nv1 nv2 nv3 (nI nhh) nv5 (nI nww) (nI nkk) nb1 nb2 nb3 nb4 nb5), (xI nb1 cI 6 ng1), (xI nb2 cI 6 ng2), (xI nb3 cI 6 ng3), (xI nb4 cI 6 ng4), (xI nb5 cI 6 ng5)] sz) := by
  refine Met.ofW (cc := cX4_comesTo) (maxL := 4) (ret := (some .int)) (by decide) rfl ?_
  intro p e s m args below meth c s₁ B hml hv
  obtain ⟨rfl, hsz, hP, hK, hD0⟩ := hv
  have hx := B.exec
  have hb := B.bytes
  have hr := B.returns
  have hts := atoms_spec (ws := wsX4_comesTo) B.pre
  have hown : s.vm.findClass RX4 = some m.cls := findClass_of_methodNamed B.named
  have hlocks := B.notSynchronized
  subst hsz
  have hD := hD0.self (sz := s.heap.size)
  generalize hAe : va_A [(xo_4_rri pl bo ou phr), (xo_3_iiiiiiiirrrrr bo bu0 bu1 bu2 bu3 bu4 bu5 bu6 bu7 bb1 bb2 bb3 bb4 bb5), (xI bb1 cI 6 bf1), (xI bb2 cI 6 bf2), (xI bb3 cI 6 bf3), (xI bb4 cI 6 bf4), (xI bb5 cI 6 bf5), (xo_3_iiiiiiiirrrrr ou ou0 ou1 ou2 ou3 ou4 ou5 ou6 ou7 ob1 ob2 ob3 ob4 ob5), (xI ob1 cI 6 of1), (xI ob2 cI 6 of2), (xI ob3 cI 6 of3), (xI ob4 cI 6 of4), (xI ob5 cI 6 of5), (xo_3_iiiiiiiirrrrr no nv0 nv1 nv2 nv3 (nI nhh) nv5 (nI nww) (nI nkk) nb1 nb2 nb3 nb4 nb5), (xI nb1 cI 6 ng1), (xI nb2 cI 6 ng2), (xI nb3 cI 6 ng3), (xI nb4 cI 6 ng4), (xI nb5 cI 6 ng5)] s.heap.size = A at hD ⊢
  have hA : ∀ q : Nat, s.heap.size ≤ q → A q := fun q h => by rw [← hAe]; exact Or.inr h
  have hS : va_S A s.heap s.heap [] := va_S.rf
  have hP : va_P (dC, dI) vwCl [(xo_4_rri pl bo ou phr), (xo_3_iiiiiiiirrrrr bo bu0 bu1 bu2 bu3 bu4 bu5 bu6 bu7 bb1 bb2 bb3 bb4 bb5), (xI bb1 cI 6 bf1), (xI bb2 cI 6 bf2), (xI bb3 cI 6 bf3), (xI bb4 cI 6 bf4), (xI bb5 cI 6 bf5), (xo_3_iiiiiiiirrrrr ou ou0 ou1 ou2 ou3 ou4 ou5 ou6 ou7 ob1 ob2 ob3 ob4 ob5), (xI ob1 cI 6 of1), (xI ob2 cI 6 of2), (xI ob3 cI 6 of3), (xI ob4 cI 6 of4), (xI ob5 cI 6 of5), (xo_3_iiiiiiiirrrrr no nv0 nv1 nv2 nv3 (nI nhh) nv5 (nI nww) (nI nkk) nb1 nb2 nb3 nb4 nb5), (xI nb1 cI 6 ng1), (xI nb2 cI 6 ng2), (xI nb3 cI 6 ng3), (xI nb4 cI 6 ng4), (xI nb5 cI 6 ng5)] s.heap := hP
  have hl := lv_entry ([.ref pl, .ref no, .int (nI t), .int (nI j)]) (n := 4) (Nat.le_of_ble_eq_true rfl)
  rw [lg_entry_eq]
  generalize (lg_sl ([.ref pl, .ref no, .int (nI t), .int (nI j)]) ++ List.replicate (4 - (lg_sl ([.ref pl, .ref no, .int (nI t), .int (nI j)])).length) Slot.unset).toArray = ls at hl ⊢
  have hl : lv_has ls 4 [(0, .ref pl), (1, .ref no), (2, .int (nI t)), (3, .int (nI j))] := hl
  refine lv_aload_n hx hb dX4_comesTo_0 rfl (lv_at hl 0 rfl) ?_
  refine va_get (D := (dC, dI)) (ci := 4) (v := .ref bo) (C := RX4) (T := TX4) (N := 3) hx hb hts i_X4_comesTo_X4 hown hK hP 0 rfl rfl 0 (by decide) (hts _ mx_X4_comesTo_1) (fun _ h9 => h9) rfl dX4_comesTo_1 ?_
  refine lv_aload_n hx hb dX4_comesTo_4 rfl (lv_at hl 1 rfl) ?_
  have hc_1 := cutW (wc := [(xo_3_iiiiiiiirrrrr bo bu0 bu1 bu2 bu3 bu4 bu5 bu6 bu7 bb1 bb2 bb3 bb4 bb5), (xI bb1 cI 6 bf1), (xI bb2 cI 6 bf2), (xI bb3 cI 6 bf3), (xI bb4 cI 6 bf4), (xI bb5 cI 6 bf5), (xo_3_iiiiiiiirrrrr no nv0 nv1 nv2 nv3 (nI nhh) nv5 (nI nww) (nI nkk) nb1 nb2 nb3 nb4 nb5), (xI nb1 cI 6 ng1), (xI nb2 cI 6 ng2), (xI nb3 cI 6 ng3), (xI nb4 cI 6 ng4), (xI nb5 cI 6 ng5)]) hP hD hS hA [1, 2, 3, 4, 5, 6, 13, 14, 15, 16, 17, 18] (by decide +kernel) rfl
  refine va_callv (va_runV (As := [.ref no]) (rest := []) ⟨hx, hb, hml, hown, hts⟩ (r_X3_becomeLike l dC dI cI cZ cL cJ s.heap.size bo bu0 bu1 bu2 bu3 bu4 bu5 bu6 bu7 bb1 bb2 bb3 bb4 bb5 bf1 bf2 bf3 bf4 bf5 no nv0 nv1 nv2 nv3 (nI nhh) nv5 (nI nww) (nI nkk) nb1 nb2 nb3 nb4 nb5 ng1 ng2 ng3 ng4 ng5 ) (cwV 1 hts gX4_comesTo_X3_becomeLike rfl rfl rfl (by decide +kernel) ⟨Nat.le_of_ble_eq_true rfl, Nat.le_of_ble_eq_true rfl⟩) (pvW 3 1 hK hP rfl rfl hc_1) rfl rfl hl.1 rfl (lv_room (Nat.le_of_ble_eq_true rfl)) dX4_comesTo_5 ⟨Nat.le_of_ble_eq_true rfl, Nat.le_of_ble_eq_true rfl⟩) hS (fun q _ h => hc_1.2.2 q h) hc_1.2.2 (fun u_1 t_1 H1 locs ht hvm h_1 hB hz1 hk1 hS => ?_)
  refine xl_5_7 hB (fun f1n_1 f2n_1 f3n_1 f4n_1 f5n_1 hP1 hD1 hF_1_0 hF_1_1 hF_1_2 hF_1_3 hF_1_4 => ?_)
  clear hB
  rw [ht] at hP1
  obtain ⟨hP, hD⟩ := va_join (wr := [(xo_4_rri pl bo ou phr), (xo_3_iiiiiiiirrrrr ou ou0 ou1 ou2 ou3 ou4 ou5 ou6 ou7 ob1 ob2 ob3 ob4 ob5), (xI ob1 cI 6 of1), (xI ob2 cI 6 of2), (xI ob3 cI 6 of3), (xI ob4 cI 6 of4), (xI ob5 cI 6 of5)]) (w1 := [(xo_3_iiiiiiiirrrrr bo nv0 nv1 nv2 nv3 (nI nhh) nv5 (nI nww) (nI nkk) bb1 bb2 bb3 bb4 bb5), (xI bb1 cI 6 f1n_1), (xI bb2 cI 6 f2n_1), (xI bb3 cI 6 f3n_1), (xI bb4 cI 6 f4n_1), (xI bb5 cI 6 f5n_1), (xo_3_iiiiiiiirrrrr no nv0 nv1 nv2 nv3 (nI nhh) nv5 (nI nww) (nI nkk) nb1 nb2 nb3 nb4 nb5), (xI nb1 cI 6 ng1), (xI nb2 cI 6 ng2), (xI nb3 cI 6 ng3), (xI nb4 cI 6 ng4), (xI nb5 cI 6 ng5)]) hP hD [1, 2, 3, 4, 5, 6, 13, 14, 15, 16, 17, 18] [0, 7, 8, 9, 10, 11, 12] rfl rfl (by decide +kernel) (by decide +kernel) hk1 hc_1.2.2 hP1 hD1
  generalize H1 = H at hP hS ⊢
  have hP : va_P (dC, dI) vwCl [(xo_4_rri pl bo ou phr), (xo_3_iiiiiiiirrrrr ou ou0 ou1 ou2 ou3 ou4 ou5 ou6 ou7 ob1 ob2 ob3 ob4 ob5), (xI ob1 cI 6 of1), (xI ob2 cI 6 of2), (xI ob3 cI 6 of3), (xI ob4 cI 6 of4), (xI ob5 cI 6 of5), (xo_3_iiiiiiiirrrrr bo nv0 nv1 nv2 nv3 (nI nhh) nv5 (nI nww) (nI nkk) bb1 bb2 bb3 bb4 bb5), (xI bb1 cI 6 f1n_1), (xI bb2 cI 6 f2n_1), (xI bb3 cI 6 f3n_1), (xI bb4 cI 6 f4n_1), (xI bb5 cI 6 f5n_1), (xo_3_iiiiiiiirrrrr no nv0 nv1 nv2 nv3 (nI nhh) nv5 (nI nww) (nI nkk) nb1 nb2 nb3 nb4 nb5), (xI nb1 cI 6 ng1), (xI nb2 cI 6 ng2), (xI nb3 cI 6 ng3), (xI nb4 cI 6 ng4), (xI nb5 cI 6 ng5)] H := hP
  have hD := dto hP hD
  refine lv_aload_n hx hb dX4_comesTo_8 rfl (lv_at hl 0 rfl) ?_
  refine lv_iload_n hx hb dX4_comesTo_9 rfl (lv_at hl 3 rfl) ?_
  refine va_put (D := (dC, dI)) (ci := 4) (v := .int (nI j)) (ty := .int) (C := RX4) (T := TX4) (N := 3) hx hb hts i_X4_comesTo_X4 tyX4 tyX4_ok nmX4 hown hK hP hD hS 0 rfl rfl 2 (by decide) (hts _ mx_X4_comesTo_2) (fun _ h9 => h9) rfl (by decide +kernel) rfl rfl (Nat.le_of_ble_eq_true rfl) dX4_comesTo_10 (fun H locs hP hD hS => ?_)
  have hP : va_P (dC, dI) vwCl [(xo_4_rri pl bo ou (nI j)), (xo_3_iiiiiiiirrrrr ou ou0 ou1 ou2 ou3 ou4 ou5 ou6 ou7 ob1 ob2 ob3 ob4 ob5), (xI ob1 cI 6 of1), (xI ob2 cI 6 of2), (xI ob3 cI 6 of3), (xI ob4 cI 6 of4), (xI ob5 cI 6 of5), (xo_3_iiiiiiiirrrrr bo nv0 nv1 nv2 nv3 (nI nhh) nv5 (nI nww) (nI nkk) bb1 bb2 bb3 bb4 bb5), (xI bb1 cI 6 f1n_1), (xI bb2 cI 6 f2n_1), (xI bb3 cI 6 f3n_1), (xI bb4 cI 6 f4n_1), (xI bb5 cI 6 f5n_1), (xo_3_iiiiiiiirrrrr no nv0 nv1 nv2 nv3 (nI nhh) nv5 (nI nww) (nI nkk) nb1 nb2 nb3 nb4 nb5), (xI nb1 cI 6 ng1), (xI nb2 cI 6 ng2), (xI nb3 cI 6 ng3), (xI nb4 cI 6 ng4), (xI nb5 cI 6 ng5)] H := hP
  have hD := dto hP hD
  refine lv_aload_n hx hb dX4_comesTo_13 rfl (lv_at hl 0 rfl) ?_
  refine lv_iconst (v := 1) hx hb dX4_comesTo_14 (by decide) ?_
  refine lv_iload_n hx hb dX4_comesTo_15 rfl (lv_at hl 2 rfl) ?_
  refine lv_iconst (v := 4) hx hb dX4_comesTo_16 (by decide) ?_
  refine va_mmin hx hb (by rw [hml]; exact hl.1.symm) hown (hts _ mx_X4_comesTo_3) (hts _ mx_X4_comesTo_4) (hts _ mx_X4_comesTo_5) (hts _ mx_X4_comesTo_6) (Nat.le_of_ble_eq_true rfl) (Nat.le_of_ble_eq_true rfl) (Nat.zero_le _) (Nat.zero_le _) dX4_comesTo_17 ?_
  refine lv_topi (fun v_2 e_2 => ?_)
  obtain ⟨z_2, hz_2, hz2_2, hze_2, e2_2⟩  := mmin_nat (a := t) (b := 4) (by omega) (by omega)
  obtain rfl : v_2 = nI z_2 := e_2.trans e2_2
  rcases (show z_2 = 0 ∨ z_2 = 1 ∨ z_2 = 2 ∨ z_2 = 3 ∨ z_2 = 4 by omega) with e_z | e_z | e_z | e_z | e_z
  · subst e_z
    refine W.eq (g2 := F0 m 20 ls [.int 0, .int 1, .ref pl]) rfl ?_
    have hc_3 := cutW (wc := [(xo_4_rri pl bo ou (nI j)), (xo_3_iiiiiiiirrrrr bo nv0 nv1 nv2 nv3 (nI nhh) nv5 (nI nww) (nI nkk) bb1 bb2 bb3 bb4 bb5), (xI bb1 cI 6 f1n_1), (xI bb2 cI 6 f2n_1), (xI bb3 cI 6 f3n_1), (xI bb4 cI 6 f4n_1), (xI bb5 cI 6 f5n_1), (xo_3_iiiiiiiirrrrr ou ou0 ou1 ou2 ou3 ou4 ou5 ou6 ou7 ob1 ob2 ob3 ob4 ob5), (xI ob1 cI 6 of1), (xI ob2 cI 6 of2), (xI ob3 cI 6 of3), (xI ob4 cI 6 of4), (xI ob5 cI 6 of5)]) hP hD hS hA [0, 7, 8, 9, 10, 11, 12, 1, 2, 3, 4, 5, 6] (by decide +kernel) rfl
    refine va_calli (va_runV (As := [.int 1, .int 0]) (rest := []) ⟨hx, hb, hml, hown, hts⟩ (r_X4_bestFor_0 l dC dI cI cZ cL cJ H.size pl j bo nv0 nv1 nv2 nv3 nv5 nhh nww nkk bb1 bb2 bb3 bb4 bb5 f1n_1 f2n_1 f3n_1 f4n_1 f5n_1 ou ou0 ou1 ou2 ou3 ou4 ou5 ou6 ou7 ob1 ob2 ob3 ob4 ob5 of1 of2 of3 of4 of5 1 (hj) (by omega) (nwb) (nkb)) (cwV 2 hts gX4_comesTo_X4_bestFor rfl rfl rfl (by decide +kernel) ⟨Nat.le_of_ble_eq_true rfl, Nat.le_of_ble_eq_true rfl⟩) (pvW 4 0 hK hP rfl rfl hc_3) rfl rfl hl.1 rfl (lv_room (Nat.le_of_ble_eq_true rfl)) dX4_comesTo_20 ⟨Nat.le_of_ble_eq_true rfl, Nat.le_of_ble_eq_true rfl⟩) hS (fun q _ h => hc_3.2.2 q h) hc_3.2.2 (fun r_3 u_3 t_3 H1 locs ht hvm h_3 hB hz1 hk1 hS => ?_)
    refine xl_15_2 hB (fun v3n_3 u0n_3 u1n_3 u2n_3 u3n_3 u4n_3 u5n_3 u6n_3 u7n_3 g1n_3 f1n_3 f2n_3 f3n_3 f4n_3 f5n_3 hP1 hD1 => ?_)
    clear hB
    rw [ht] at hP1
    obtain ⟨hP, hD⟩ := va_join (wr := [(xo_3_iiiiiiiirrrrr no nv0 nv1 nv2 nv3 (nI nhh) nv5 (nI nww) (nI nkk) nb1 nb2 nb3 nb4 nb5), (xI nb1 cI 6 ng1), (xI nb2 cI 6 ng2), (xI nb3 cI 6 ng3), (xI nb4 cI 6 ng4), (xI nb5 cI 6 ng5)]) (w1 := [(xo_4_rri pl bo ou (nI j)), (xo_3_iiiiiiiirrrrr bo nv0 nv1 nv2 v3n_3 (nI nhh) nv5 (nI nww) (nI nkk) bb1 bb2 bb3 bb4 bb5), (xI bb1 cI 6 g1n_3), (xI bb2 cI 6 f2n_1), (xI bb3 cI 6 f3n_1), (xI bb4 cI 6 f4n_1), (xI bb5 cI 6 f5n_1), (xo_3_iiiiiiiirrrrr ou u0n_3 u1n_3 u2n_3 u3n_3 u4n_3 u5n_3 u6n_3 u7n_3 ob1 ob2 ob3 ob4 ob5), (xI ob1 cI 6 f1n_3), (xI ob2 cI 6 f2n_3), (xI ob3 cI 6 f3n_3), (xI ob4 cI 6 f4n_3), (xI ob5 cI 6 f5n_3)]) hP hD [0, 7, 8, 9, 10, 11, 12, 1, 2, 3, 4, 5, 6] [13, 14, 15, 16, 17, 18] rfl rfl (by decide +kernel) (by decide +kernel) hk1 hc_3.2.2 hP1 hD1
    generalize H1 = H at hP hS ⊢
    have hP : va_P (dC, dI) vwCl [(xo_3_iiiiiiiirrrrr no nv0 nv1 nv2 nv3 (nI nhh) nv5 (nI nww) (nI nkk) nb1 nb2 nb3 nb4 nb5), (xI nb1 cI 6 ng1), (xI nb2 cI 6 ng2), (xI nb3 cI 6 ng3), (xI nb4 cI 6 ng4), (xI nb5 cI 6 ng5), (xo_4_rri pl bo ou (nI j)), (xo_3_iiiiiiiirrrrr bo nv0 nv1 nv2 v3n_3 (nI nhh) nv5 (nI nww) (nI nkk) bb1 bb2 bb3 bb4 bb5), (xI bb1 cI 6 g1n_3), (xI bb2 cI 6 f2n_1), (xI bb3 cI 6 f3n_1), (xI bb4 cI 6 f4n_1), (xI bb5 cI 6 f5n_1), (xo_3_iiiiiiiirrrrr ou u0n_3 u1n_3 u2n_3 u3n_3 u4n_3 u5n_3 u6n_3 u7n_3 ob1 ob2 ob3 ob4 ob5), (xI ob1 cI 6 f1n_3), (xI ob2 cI 6 f2n_3), (xI ob3 cI 6 f3n_3), (xI ob4 cI 6 f4n_3), (xI ob5 cI 6 f5n_3)] H := hP
    have hD := dto hP hD
    have hX9 := cut2 (wc := [(xo_4_rri pl bo ou (nI j)), (xo_3_iiiiiiiirrrrr bo nv0 nv1 nv2 v3n_3 (nI nhh) nv5 (nI nww) (nI nkk) bb1 bb2 bb3 bb4 bb5), (xI bb1 cI 6 g1n_3), (xI bb2 cI 6 f2n_1), (xI bb3 cI 6 f3n_1), (xI bb4 cI 6 f4n_1), (xI bb5 cI 6 f5n_1), (xo_3_iiiiiiiirrrrr ou u0n_3 u1n_3 u2n_3 u3n_3 u4n_3 u5n_3 u6n_3 u7n_3 ob1 ob2 ob3 ob4 ob5), (xI ob1 cI 6 f1n_3), (xI ob2 cI 6 f2n_3), (xI ob3 cI 6 f3n_3), (xI ob4 cI 6 f4n_3), (xI ob5 cI 6 f5n_3), (xo_3_iiiiiiiirrrrr no nv0 nv1 nv2 nv3 (nI nhh) nv5 (nI nww) (nI nkk) nb1 nb2 nb3 nb4 nb5), (xI nb1 cI 6 ng1), (xI nb2 cI 6 ng2), (xI nb3 cI 6 ng3), (xI nb4 cI 6 ng4), (xI nb5 cI 6 ng5)]) hP hD [6, 7, 8, 9, 10, 11, 12, 13, 14, 15, 16, 17, 18, 0, 1, 2, 3, 4, 5] (by decide +kernel) rfl
    exact W.iret (v := r_3) hx hb hr (fun t ht hW => ⟨⟨r_3, (), rfl, trivial, ⟨(nI j), nv0, nv1, nv2, v3n_3, (nI nhh), nv5, (nI nww), (nI nkk), u0n_3, u1n_3, u2n_3, u3n_3, u4n_3, u5n_3, u6n_3, u7n_3, g1n_3, f1n_3, f2n_1, f2n_3, f3n_1, f3n_3, f4n_1, f4n_3, f5n_1, f5n_3, va_Ht ht hX9.1, hX9.2⟩⟩, hS.F ht⟩) hS.2.2 dX4_comesTo_23
  · subst e_z
    refine W.eq (g2 := F0 m 20 ls [.int 1, .int 1, .ref pl]) rfl ?_
    have hc_4 := cutW (wc := [(xo_4_rri pl bo ou (nI j)), (xo_3_iiiiiiiirrrrr bo nv0 nv1 nv2 nv3 (nI nhh) nv5 (nI nww) (nI nkk) bb1 bb2 bb3 bb4 bb5), (xI bb1 cI 6 f1n_1), (xI bb2 cI 6 f2n_1), (xI bb3 cI 6 f3n_1), (xI bb4 cI 6 f4n_1), (xI bb5 cI 6 f5n_1), (xo_3_iiiiiiiirrrrr ou ou0 ou1 ou2 ou3 ou4 ou5 ou6 ou7 ob1 ob2 ob3 ob4 ob5), (xI ob1 cI 6 of1), (xI ob2 cI 6 of2), (xI ob3 cI 6 of3), (xI ob4 cI 6 of4), (xI ob5 cI 6 of5)]) hP hD hS hA [0, 7, 8, 9, 10, 11, 12, 1, 2, 3, 4, 5, 6] (by decide +kernel) rfl
    refine va_calli (va_runV (As := [.int 1, .int 1]) (rest := []) ⟨hx, hb, hml, hown, hts⟩ (r_X4_bestFor_1 l dC dI cI cZ cL cJ H.size pl j bo nv0 nv1 nv2 nv3 nv5 nhh nww nkk bb1 bb2 bb3 bb4 bb5 f1n_1 f2n_1 f3n_1 f4n_1 f5n_1 ou ou0 ou1 ou2 ou3 ou4 ou5 ou6 ou7 ob1 ob2 ob3 ob4 ob5 of1 of2 of3 of4 of5 1 (hj) (by omega) (nwb) (nkb)) (cwV 2 hts gX4_comesTo_X4_bestFor rfl rfl rfl (by decide +kernel) ⟨Nat.le_of_ble_eq_true rfl, Nat.le_of_ble_eq_true rfl⟩) (pvW 4 0 hK hP rfl rfl hc_4) rfl rfl hl.1 rfl (lv_room (Nat.le_of_ble_eq_true rfl)) dX4_comesTo_20 ⟨Nat.le_of_ble_eq_true rfl, Nat.le_of_ble_eq_true rfl⟩) hS (fun q _ h => hc_4.2.2 q h) hc_4.2.2 (fun r_4 u_4 t_4 H1 locs ht hvm h_4 hB hz1 hk1 hS => ?_)
    refine xl_15_2 hB (fun v3n_4 u0n_4 u1n_4 u2n_4 u3n_4 u4n_4 u5n_4 u6n_4 u7n_4 g1n_4 f1n_4 f2n_4 f3n_4 f4n_4 f5n_4 hP1 hD1 => ?_)
    clear hB
    rw [ht] at hP1
    obtain ⟨hP, hD⟩ := va_join (wr := [(xo_3_iiiiiiiirrrrr no nv0 nv1 nv2 nv3 (nI nhh) nv5 (nI nww) (nI nkk) nb1 nb2 nb3 nb4 nb5), (xI nb1 cI 6 ng1), (xI nb2 cI 6 ng2), (xI nb3 cI 6 ng3), (xI nb4 cI 6 ng4), (xI nb5 cI 6 ng5)]) (w1 := [(xo_4_rri pl bo ou (nI j)), (xo_3_iiiiiiiirrrrr bo nv0 nv1 nv2 v3n_4 (nI nhh) nv5 (nI nww) (nI nkk) bb1 bb2 bb3 bb4 bb5), (xI bb1 cI 6 g1n_4), (xI bb2 cI 6 f2n_1), (xI bb3 cI 6 f3n_1), (xI bb4 cI 6 f4n_1), (xI bb5 cI 6 f5n_1), (xo_3_iiiiiiiirrrrr ou u0n_4 u1n_4 u2n_4 u3n_4 u4n_4 u5n_4 u6n_4 u7n_4 ob1 ob2 ob3 ob4 ob5), (xI ob1 cI 6 f1n_4), (xI ob2 cI 6 f2n_4), (xI ob3 cI 6 f3n_4), (xI ob4 cI 6 f4n_4), (xI ob5 cI 6 f5n_4)]) hP hD [0, 7, 8, 9, 10, 11, 12, 1, 2, 3, 4, 5, 6] [13, 14, 15, 16, 17, 18] rfl rfl (by decide +kernel) (by decide +kernel) hk1 hc_4.2.2 hP1 hD1
    generalize H1 = H at hP hS ⊢
    have hP : va_P (dC, dI) vwCl [(xo_3_iiiiiiiirrrrr no nv0 nv1 nv2 nv3 (nI nhh) nv5 (nI nww) (nI nkk) nb1 nb2 nb3 nb4 nb5), (xI nb1 cI 6 ng1), (xI nb2 cI 6 ng2), (xI nb3 cI 6 ng3), (xI nb4 cI 6 ng4), (xI nb5 cI 6 ng5), (xo_4_rri pl bo ou (nI j)), (xo_3_iiiiiiiirrrrr bo nv0 nv1 nv2 v3n_4 (nI nhh) nv5 (nI nww) (nI nkk) bb1 bb2 bb3 bb4 bb5), (xI bb1 cI 6 g1n_4), (xI bb2 cI 6 f2n_1), (xI bb3 cI 6 f3n_1), (xI bb4 cI 6 f4n_1), (xI bb5 cI 6 f5n_1), (xo_3_iiiiiiiirrrrr ou u0n_4 u1n_4 u2n_4 u3n_4 u4n_4 u5n_4 u6n_4 u7n_4 ob1 ob2 ob3 ob4 ob5), (xI ob1 cI 6 f1n_4), (xI ob2 cI 6 f2n_4), (xI ob3 cI 6 f3n_4), (xI ob4 cI 6 f4n_4), (xI ob5 cI 6 f5n_4)] H := hP
    have hD := dto hP hD
    have hX9 := cut2 (wc := [(xo_4_rri pl bo ou (nI j)), (xo_3_iiiiiiiirrrrr bo nv0 nv1 nv2 v3n_4 (nI nhh) nv5 (nI nww) (nI nkk) bb1 bb2 bb3 bb4 bb5), (xI bb1 cI 6 g1n_4), (xI bb2 cI 6 f2n_1), (xI bb3 cI 6 f3n_1), (xI bb4 cI 6 f4n_1), (xI bb5 cI 6 f5n_1), (xo_3_iiiiiiiirrrrr ou u0n_4 u1n_4 u2n_4 u3n_4 u4n_4 u5n_4 u6n_4 u7n_4 ob1 ob2 ob3 ob4 ob5), (xI ob1 cI 6 f1n_4), (xI ob2 cI 6 f2n_4), (xI ob3 cI 6 f3n_4), (xI ob4 cI 6 f4n_4), (xI ob5 cI 6 f5n_4), (xo_3_iiiiiiiirrrrr no nv0 nv1 nv2 nv3 (nI nhh) nv5 (nI nww) (nI nkk) nb1 nb2 nb3 nb4 nb5), (xI nb1 cI 6 ng1), (xI nb2 cI 6 ng2), (xI nb3 cI 6 ng3), (xI nb4 cI 6 ng4), (xI nb5 cI 6 ng5)]) hP hD [6, 7, 8, 9, 10, 11, 12, 13, 14, 15, 16, 17, 18, 0, 1, 2, 3, 4, 5] (by decide +kernel) rfl
    exact W.iret (v := r_4) hx hb hr (fun t ht hW => ⟨⟨r_4, (), rfl, trivial, ⟨(nI j), nv0, nv1, nv2, v3n_4, (nI nhh), nv5, (nI nww), (nI nkk), u0n_4, u1n_4, u2n_4, u3n_4, u4n_4, u5n_4, u6n_4, u7n_4, g1n_4, f1n_4, f2n_1, f2n_4, f3n_1, f3n_4, f4n_1, f4n_4, f5n_1, f5n_4, va_Ht ht hX9.1, hX9.2⟩⟩, hS.F ht⟩) hS.2.2 dX4_comesTo_23
  · subst e_z
    refine W.eq (g2 := F0 m 20 ls [.int 2, .int 1, .ref pl]) rfl ?_
    have hc_5 := cutW (wc := [(xo_4_rri pl bo ou (nI j)), (xo_3_iiiiiiiirrrrr bo nv0 nv1 nv2 nv3 (nI nhh) nv5 (nI nww) (nI nkk) bb1 bb2 bb3 bb4 bb5), (xI bb1 cI 6 f1n_1), (xI bb2 cI 6 f2n_1), (xI bb3 cI 6 f3n_1), (xI bb4 cI 6 f4n_1), (xI bb5 cI 6 f5n_1), (xo_3_iiiiiiiirrrrr ou ou0 ou1 ou2 ou3 ou4 ou5 ou6 ou7 ob1 ob2 ob3 ob4 ob5), (xI ob1 cI 6 of1), (xI ob2 cI 6 of2), (xI ob3 cI 6 of3), (xI ob4 cI 6 of4), (xI ob5 cI 6 of5)]) hP hD hS hA [0, 7, 8, 9, 10, 11, 12, 1, 2, 3, 4, 5, 6] (by decide +kernel) rfl
    refine va_calli (va_runV (As := [.int 1, .int 2]) (rest := []) ⟨hx, hb, hml, hown, hts⟩ (r_X4_bestFor_2 l dC dI cI cZ cL cJ H.size pl j bo nv0 nv1 nv2 nv3 nv5 nhh nww nkk bb1 bb2 bb3 bb4 bb5 f1n_1 f2n_1 f3n_1 f4n_1 f5n_1 ou ou0 ou1 ou2 ou3 ou4 ou5 ou6 ou7 ob1 ob2 ob3 ob4 ob5 of1 of2 of3 of4 of5 1 (hj) (by omega) (nwb) (nkb)) (cwV 2 hts gX4_comesTo_X4_bestFor rfl rfl rfl (by decide +kernel) ⟨Nat.le_of_ble_eq_true rfl, Nat.le_of_ble_eq_true rfl⟩) (pvW 4 0 hK hP rfl rfl hc_5) rfl rfl hl.1 rfl (lv_room (Nat.le_of_ble_eq_true rfl)) dX4_comesTo_20 ⟨Nat.le_of_ble_eq_true rfl, Nat.le_of_ble_eq_true rfl⟩) hS (fun q _ h => hc_5.2.2 q h) hc_5.2.2 (fun r_5 u_5 t_5 H1 locs ht hvm h_5 hB hz1 hk1 hS => ?_)
    refine xl_15_2 hB (fun v3n_5 u0n_5 u1n_5 u2n_5 u3n_5 u4n_5 u5n_5 u6n_5 u7n_5 g1n_5 f1n_5 f2n_5 f3n_5 f4n_5 f5n_5 hP1 hD1 => ?_)
    clear hB
    rw [ht] at hP1
    obtain ⟨hP, hD⟩ := va_join (wr := [(xo_3_iiiiiiiirrrrr no nv0 nv1 nv2 nv3 (nI nhh) nv5 (nI nww) (nI nkk) nb1 nb2 nb3 nb4 nb5), (xI nb1 cI 6 ng1), (xI nb2 cI 6 ng2), (xI nb3 cI 6 ng3), (xI nb4 cI 6 ng4), (xI nb5 cI 6 ng5)]) (w1 := [(xo_4_rri pl bo ou (nI j)), (xo_3_iiiiiiiirrrrr bo nv0 nv1 nv2 v3n_5 (nI nhh) nv5 (nI nww) (nI nkk) bb1 bb2 bb3 bb4 bb5), (xI bb1 cI 6 g1n_5), (xI bb2 cI 6 f2n_1), (xI bb3 cI 6 f3n_1), (xI bb4 cI 6 f4n_1), (xI bb5 cI 6 f5n_1), (xo_3_iiiiiiiirrrrr ou u0n_5 u1n_5 u2n_5 u3n_5 u4n_5 u5n_5 u6n_5 u7n_5 ob1 ob2 ob3 ob4 ob5), (xI ob1 cI 6 f1n_5), (xI ob2 cI 6 f2n_5), (xI ob3 cI 6 f3n_5), (xI ob4 cI 6 f4n_5), (xI ob5 cI 6 f5n_5)]) hP hD [0, 7, 8, 9, 10, 11, 12, 1, 2, 3, 4, 5, 6] [13, 14, 15, 16, 17, 18] rfl rfl (by decide +kernel) (by decide +kernel) hk1 hc_5.2.2 hP1 hD1
    generalize H1 = H at hP hS ⊢
    have hP : va_P (dC, dI) vwCl [(xo_3_iiiiiiiirrrrr no nv0 nv1 nv2 nv3 (nI nhh) nv5 (nI nww) (nI nkk) nb1 nb2 nb3 nb4 nb5), (xI nb1 cI 6 ng1), (xI nb2 cI 6 ng2), (xI nb3 cI 6 ng3), (xI nb4 cI 6 ng4), (xI nb5 cI 6 ng5), (xo_4_rri pl bo ou (nI j)), (xo_3_iiiiiiiirrrrr bo nv0 nv1 nv2 v3n_5 (nI nhh) nv5 (nI nww) (nI nkk) bb1 bb2 bb3 bb4 bb5), (xI bb1 cI 6 g1n_5), (xI bb2 cI 6 f2n_1), (xI bb3 cI 6 f3n_1), (xI bb4 cI 6 f4n_1), (xI bb5 cI 6 f5n_1), (xo_3_iiiiiiiirrrrr ou u0n_5 u1n_5 u2n_5 u3n_5 u4n_5 u5n_5 u6n_5 u7n_5 ob1 ob2 ob3 ob4 ob5), (xI ob1 cI 6 f1n_5), (xI ob2 cI 6 f2n_5), (xI ob3 cI 6 f3n_5), (xI ob4 cI 6 f4n_5), (xI ob5 cI 6 f5n_5)] H := hP
    have hD := dto hP hD
    have hX9 := cut2 (wc := [(xo_4_rri pl bo ou (nI j)), (xo_3_iiiiiiiirrrrr bo nv0 nv1 nv2 v3n_5 (nI nhh) nv5 (nI nww) (nI nkk) bb1 bb2 bb3 bb4 bb5), (xI bb1 cI 6 g1n_5), (xI bb2 cI 6 f2n_1), (xI bb3 cI 6 f3n_1), (xI bb4 cI 6 f4n_1), (xI bb5 cI 6 f5n_1), (xo_3_iiiiiiiirrrrr ou u0n_5 u1n_5 u2n_5 u3n_5 u4n_5 u5n_5 u6n_5 u7n_5 ob1 ob2 ob3 ob4 ob5), (xI ob1 cI 6 f1n_5), (xI ob2 cI 6 f2n_5), (xI ob3 cI 6 f3n_5), (xI ob4 cI 6 f4n_5), (xI ob5 cI 6 f5n_5), (xo_3_iiiiiiiirrrrr no nv0 nv1 nv2 nv3 (nI nhh) nv5 (nI nww) (nI nkk) nb1 nb2 nb3 nb4 nb5), (xI nb1 cI 6 ng1), (xI nb2 cI 6 ng2), (xI nb3 cI 6 ng3), (xI nb4 cI 6 ng4), (xI nb5 cI 6 ng5)]) hP hD [6, 7, 8, 9, 10, 11, 12, 13, 14, 15, 16, 17, 18, 0, 1, 2, 3, 4, 5] (by decide +kernel) rfl
    exact W.iret (v := r_5) hx hb hr (fun t ht hW => ⟨⟨r_5, (), rfl, trivial, ⟨(nI j), nv0, nv1, nv2, v3n_5, (nI nhh), nv5, (nI nww), (nI nkk), u0n_5, u1n_5, u2n_5, u3n_5, u4n_5, u5n_5, u6n_5, u7n_5, g1n_5, f1n_5, f2n_1, f2n_5, f3n_1, f3n_5, f4n_1, f4n_5, f5n_1, f5n_5, va_Ht ht hX9.1, hX9.2⟩⟩, hS.F ht⟩) hS.2.2 dX4_comesTo_23
  · subst e_z
    refine W.eq (g2 := F0 m 20 ls [.int 3, .int 1, .ref pl]) rfl ?_
    have hc_6 := cutW (wc := [(xo_4_rri pl bo ou (nI j)), (xo_3_iiiiiiiirrrrr bo nv0 nv1 nv2 nv3 (nI nhh) nv5 (nI nww) (nI nkk) bb1 bb2 bb3 bb4 bb5), (xI bb1 cI 6 f1n_1), (xI bb2 cI 6 f2n_1), (xI bb3 cI 6 f3n_1), (xI bb4 cI 6 f4n_1), (xI bb5 cI 6 f5n_1), (xo_3_iiiiiiiirrrrr ou ou0 ou1 ou2 ou3 ou4 ou5 ou6 ou7 ob1 ob2 ob3 ob4 ob5), (xI ob1 cI 6 of1), (xI ob2 cI 6 of2), (xI ob3 cI 6 of3), (xI ob4 cI 6 of4), (xI ob5 cI 6 of5)]) hP hD hS hA [0, 7, 8, 9, 10, 11, 12, 1, 2, 3, 4, 5, 6] (by decide +kernel) rfl
    refine va_calli (va_runV (As := [.int 1, .int 3]) (rest := []) ⟨hx, hb, hml, hown, hts⟩ (r_X4_bestFor_3 l dC dI cI cZ cL cJ H.size pl j bo nv0 nv1 nv2 nv3 nv5 nhh nww nkk bb1 bb2 bb3 bb4 bb5 f1n_1 f2n_1 f3n_1 f4n_1 f5n_1 ou ou0 ou1 ou2 ou3 ou4 ou5 ou6 ou7 ob1 ob2 ob3 ob4 ob5 of1 of2 of3 of4 of5 1 (hj) (by omega) (nwb) (nkb)) (cwV 2 hts gX4_comesTo_X4_bestFor rfl rfl rfl (by decide +kernel) ⟨Nat.le_of_ble_eq_true rfl, Nat.le_of_ble_eq_true rfl⟩) (pvW 4 0 hK hP rfl rfl hc_6) rfl rfl hl.1 rfl (lv_room (Nat.le_of_ble_eq_true rfl)) dX4_comesTo_20 ⟨Nat.le_of_ble_eq_true rfl, Nat.le_of_ble_eq_true rfl⟩) hS (fun q _ h => hc_6.2.2 q h) hc_6.2.2 (fun r_6 u_6 t_6 H1 locs ht hvm h_6 hB hz1 hk1 hS => ?_)
    refine xl_15_2 hB (fun v3n_6 u0n_6 u1n_6 u2n_6 u3n_6 u4n_6 u5n_6 u6n_6 u7n_6 g1n_6 f1n_6 f2n_6 f3n_6 f4n_6 f5n_6 hP1 hD1 => ?_)
    clear hB
    rw [ht] at hP1
    obtain ⟨hP, hD⟩ := va_join (wr := [(xo_3_iiiiiiiirrrrr no nv0 nv1 nv2 nv3 (nI nhh) nv5 (nI nww) (nI nkk) nb1 nb2 nb3 nb4 nb5), (xI nb1 cI 6 ng1), (xI nb2 cI 6 ng2), (xI nb3 cI 6 ng3), (xI nb4 cI 6 ng4), (xI nb5 cI 6 ng5)]) (w1 := [(xo_4_rri pl bo ou (nI j)), (xo_3_iiiiiiiirrrrr bo nv0 nv1 nv2 v3n_6 (nI nhh) nv5 (nI nww) (nI nkk) bb1 bb2 bb3 bb4 bb5), (xI bb1 cI 6 g1n_6), (xI bb2 cI 6 f2n_1), (xI bb3 cI 6 f3n_1), (xI bb4 cI 6 f4n_1), (xI bb5 cI 6 f5n_1), (xo_3_iiiiiiiirrrrr ou u0n_6 u1n_6 u2n_6 u3n_6 u4n_6 u5n_6 u6n_6 u7n_6 ob1 ob2 ob3 ob4 ob5), (xI ob1 cI 6 f1n_6), (xI ob2 cI 6 f2n_6), (xI ob3 cI 6 f3n_6), (xI ob4 cI 6 f4n_6), (xI ob5 cI 6 f5n_6)]) hP hD [0, 7, 8, 9, 10, 11, 12, 1, 2, 3, 4, 5, 6] [13, 14, 15, 16, 17, 18] rfl rfl (by decide +kernel) (by decide +kernel) hk1 hc_6.2.2 hP1 hD1
    generalize H1 = H at hP hS ⊢
    have hP : va_P (dC, dI) vwCl [(xo_3_iiiiiiiirrrrr no nv0 nv1 nv2 nv3 (nI nhh) nv5 (nI nww) (nI nkk) nb1 nb2 nb3 nb4 nb5), (xI nb1 cI 6 ng1), (xI nb2 cI 6 ng2), (xI nb3 cI 6 ng3), (xI nb4 cI 6 ng4), (xI nb5 cI 6 ng5), (xo_4_rri pl bo ou (nI j)), (xo_3_iiiiiiiirrrrr bo nv0 nv1 nv2 v3n_6 (nI nhh) nv5 (nI nww) (nI nkk) bb1 bb2 bb3 bb4 bb5), (xI bb1 cI 6 g1n_6), (xI bb2 cI 6 f2n_1), (xI bb3 cI 6 f3n_1), (xI bb4 cI 6 f4n_1), (xI bb5 cI 6 f5n_1), (xo_3_iiiiiiiirrrrr ou u0n_6 u1n_6 u2n_6 u3n_6 u4n_6 u5n_6 u6n_6 u7n_6 ob1 ob2 ob3 ob4 ob5), (xI ob1 cI 6 f1n_6), (xI ob2 cI 6 f2n_6), (xI ob3 cI 6 f3n_6), (xI ob4 cI 6 f4n_6), (xI ob5 cI 6 f5n_6)] H := hP
    have hD := dto hP hD
    have hX9 := cut2 (wc := [(xo_4_rri pl bo ou (nI j)), (xo_3_iiiiiiiirrrrr bo nv0 nv1 nv2 v3n_6 (nI nhh) nv5 (nI nww) (nI nkk) bb1 bb2 bb3 bb4 bb5), (xI bb1 cI 6 g1n_6), (xI bb2 cI 6 f2n_1), (xI bb3 cI 6 f3n_1), (xI bb4 cI 6 f4n_1), (xI bb5 cI 6 f5n_1), (xo_3_iiiiiiiirrrrr ou u0n_6 u1n_6 u2n_6 u3n_6 u4n_6 u5n_6 u6n_6 u7n_6 ob1 ob2 ob3 ob4 ob5), (xI ob1 cI 6 f1n_6), (xI ob2 cI 6 f2n_6), (xI ob3 cI 6 f3n_6), (xI ob4 cI 6 f4n_6), (xI ob5 cI 6 f5n_6), (xo_3_iiiiiiiirrrrr no nv0 nv1 nv2 nv3 (nI nhh) nv5 (nI nww) (nI nkk) nb1 nb2 nb3 nb4 nb5), (xI nb1 cI 6 ng1), (xI nb2 cI 6 ng2), (xI nb3 cI 6 ng3), (xI nb4 cI 6 ng4), (xI nb5 cI 6 ng5)]) hP hD [6, 7, 8, 9, 10, 11, 12, 13, 14, 15, 16, 17, 18, 0, 1, 2, 3, 4, 5] (by decide +kernel) rfl
    exact W.iret (v := r_6) hx hb hr (fun t ht hW => ⟨⟨r_6, (), rfl, trivial, ⟨(nI j), nv0, nv1, nv2, v3n_6, (nI nhh), nv5, (nI nww), (nI nkk), u0n_6, u1n_6, u2n_6, u3n_6, u4n_6, u5n_6, u6n_6, u7n_6, g1n_6, f1n_6, f2n_1, f2n_6, f3n_1, f3n_6, f4n_1, f4n_6, f5n_1, f5n_6, va_Ht ht hX9.1, hX9.2⟩⟩, hS.F ht⟩) hS.2.2 dX4_comesTo_23
  · subst e_z
    refine W.eq (g2 := F0 m 20 ls [.int 4, .int 1, .ref pl]) rfl ?_
    have hc_7 := cutW (wc := [(xo_4_rri pl bo ou (nI j)), (xo_3_iiiiiiiirrrrr bo nv0 nv1 nv2 nv3 (nI nhh) nv5 (nI nww) (nI nkk) bb1 bb2 bb3 bb4 bb5), (xI bb1 cI 6 f1n_1), (xI bb2 cI 6 f2n_1), (xI bb3 cI 6 f3n_1), (xI bb4 cI 6 f4n_1), (xI bb5 cI 6 f5n_1), (xo_3_iiiiiiiirrrrr ou ou0 ou1 ou2 ou3 ou4 ou5 ou6 ou7 ob1 ob2 ob3 ob4 ob5), (xI ob1 cI 6 of1), (xI ob2 cI 6 of2), (xI ob3 cI 6 of3), (xI ob4 cI 6 of4), (xI ob5 cI 6 of5)]) hP hD hS hA [0, 7, 8, 9, 10, 11, 12, 1, 2, 3, 4, 5, 6] (by decide +kernel) rfl
    refine va_calli (va_runV (As := [.int 1, .int 4]) (rest := []) ⟨hx, hb, hml, hown, hts⟩ (r_X4_bestFor_4 l dC dI cI cZ cL cJ H.size pl j bo nv0 nv1 nv2 nv3 nv5 nhh nww nkk bb1 bb2 bb3 bb4 bb5 f1n_1 f2n_1 f3n_1 f4n_1 f5n_1 ou ou0 ou1 ou2 ou3 ou4 ou5 ou6 ou7 ob1 ob2 ob3 ob4 ob5 of1 of2 of3 of4 of5 1 (hj) (by omega) (nwb) (nkb)) (cwV 2 hts gX4_comesTo_X4_bestFor rfl rfl rfl (by decide +kernel) ⟨Nat.le_of_ble_eq_true rfl, Nat.le_of_ble_eq_true rfl⟩) (pvW 4 0 hK hP rfl rfl hc_7) rfl rfl hl.1 rfl (lv_room (Nat.le_of_ble_eq_true rfl)) dX4_comesTo_20 ⟨Nat.le_of_ble_eq_true rfl, Nat.le_of_ble_eq_true rfl⟩) hS (fun q _ h => hc_7.2.2 q h) hc_7.2.2 (fun r_7 u_7 t_7 H1 locs ht hvm h_7 hB hz1 hk1 hS => ?_)
    refine xl_15_2 hB (fun v3n_7 u0n_7 u1n_7 u2n_7 u3n_7 u4n_7 u5n_7 u6n_7 u7n_7 g1n_7 f1n_7 f2n_7 f3n_7 f4n_7 f5n_7 hP1 hD1 => ?_)
    clear hB
    rw [ht] at hP1
    obtain ⟨hP, hD⟩ := va_join (wr := [(xo_3_iiiiiiiirrrrr no nv0 nv1 nv2 nv3 (nI nhh) nv5 (nI nww) (nI nkk) nb1 nb2 nb3 nb4 nb5), (xI nb1 cI 6 ng1), (xI nb2 cI 6 ng2), (xI nb3 cI 6 ng3), (xI nb4 cI 6 ng4), (xI nb5 cI 6 ng5)]) (w1 := [(xo_4_rri pl bo ou (nI j)), (xo_3_iiiiiiiirrrrr bo nv0 nv1 nv2 v3n_7 (nI nhh) nv5 (nI nww) (nI nkk) bb1 bb2 bb3 bb4 bb5), (xI bb1 cI 6 g1n_7), (xI bb2 cI 6 f2n_1), (xI bb3 cI 6 f3n_1), (xI bb4 cI 6 f4n_1), (xI bb5 cI 6 f5n_1), (xo_3_iiiiiiiirrrrr ou u0n_7 u1n_7 u2n_7 u3n_7 u4n_7 u5n_7 u6n_7 u7n_7 ob1 ob2 ob3 ob4 ob5), (xI ob1 cI 6 f1n_7), (xI ob2 cI 6 f2n_7), (xI ob3 cI 6 f3n_7), (xI ob4 cI 6 f4n_7), (xI ob5 cI 6 f5n_7)]) hP hD [0, 7, 8, 9, 10, 11, 12, 1, 2, 3, 4, 5, 6] [13, 14, 15, 16, 17, 18] rfl rfl (by decide +kernel) (by decide +kernel) hk1 hc_7.2.2 hP1 hD1
    generalize H1 = H at hP hS ⊢
    have hP : va_P (dC, dI) vwCl [(xo_3_iiiiiiiirrrrr no nv0 nv1 nv2 nv3 (nI nhh) nv5 (nI nww) (nI nkk) nb1 nb2 nb3 nb4 nb5), (xI nb1 cI 6 ng1), (xI nb2 cI 6 ng2), (xI nb3 cI 6 ng3), (xI nb4 cI 6 ng4), (xI nb5 cI 6 ng5), (xo_4_rri pl bo ou (nI j)), (xo_3_iiiiiiiirrrrr bo nv0 nv1 nv2 v3n_7 (nI nhh) nv5 (nI nww) (nI nkk) bb1 bb2 bb3 bb4 bb5), (xI bb1 cI 6 g1n_7), (xI bb2 cI 6 f2n_1), (xI bb3 cI 6 f3n_1), (xI bb4 cI 6 f4n_1), (xI bb5 cI 6 f5n_1), (xo_3_iiiiiiiirrrrr ou u0n_7 u1n_7 u2n_7 u3n_7 u4n_7 u5n_7 u6n_7 u7n_7 ob1 ob2 ob3 ob4 ob5), (xI ob1 cI 6 f1n_7), (xI ob2 cI 6 f2n_7), (xI ob3 cI 6 f3n_7), (xI ob4 cI 6 f4n_7), (xI ob5 cI 6 f5n_7)] H := hP
    have hD := dto hP hD
    have hX9 := cut2 (wc := [(xo_4_rri pl bo ou (nI j)), (xo_3_iiiiiiiirrrrr bo nv0 nv1 nv2 v3n_7 (nI nhh) nv5 (nI nww) (nI nkk) bb1 bb2 bb3 bb4 bb5), (xI bb1 cI 6 g1n_7), (xI bb2 cI 6 f2n_1), (xI bb3 cI 6 f3n_1), (xI bb4 cI 6 f4n_1), (xI bb5 cI 6 f5n_1), (xo_3_iiiiiiiirrrrr ou u0n_7 u1n_7 u2n_7 u3n_7 u4n_7 u5n_7 u6n_7 u7n_7 ob1 ob2 ob3 ob4 ob5), (xI ob1 cI 6 f1n_7), (xI ob2 cI 6 f2n_7), (xI ob3 cI 6 f3n_7), (xI ob4 cI 6 f4n_7), (xI ob5 cI 6 f5n_7), (xo_3_iiiiiiiirrrrr no nv0 nv1 nv2 nv3 (nI nhh) nv5 (nI nww) (nI nkk) nb1 nb2 nb3 nb4 nb5), (xI nb1 cI 6 ng1), (xI nb2 cI 6 ng2), (xI nb3 cI 6 ng3), (xI nb4 cI 6 ng4), (xI nb5 cI 6 ng5)]) hP hD [6, 7, 8, 9, 10, 11, 12, 13, 14, 15, 16, 17, 18, 0, 1, 2, 3, 4, 5] (by decide +kernel) rfl
    exact W.iret (v := r_7) hx hb hr (fun t ht hW => ⟨⟨r_7, (), rfl, trivial, ⟨(nI j), nv0, nv1, nv2, v3n_7, (nI nhh), nv5, (nI nww), (nI nkk), u0n_7, u1n_7, u2n_7, u3n_7, u4n_7, u5n_7, u6n_7, u7n_7, g1n_7, f1n_7, f2n_1, f2n_7, f3n_1, f3n_7, f4n_1, f4n_7, f5n_1, f5n_7, va_Ht ht hX9.1, hX9.2⟩⟩, hS.F ht⟩) hS.2.2 dX4_comesTo_23
set_option maxHeartbeats 4000000 in
set_option maxRecDepth 100000 in
theorem r_X7_byTurns (l : Launch) (dC : Nat → ClassId) (dI : Nat → Nat → Nat) (cI cZ cL cJ : ClassId) (sz : Nat) (x : Nat) (ro : Nat) (ta : Nat) (no : Nat) (ac : Nat) (im : Nat) (tr : Nat) (pl : Nat) (cs : Nat) (ak : Nat) (xf : Int32) (xg : Int32) (bo : Nat) (ou : Nat) (phr : Int32) (bu0 : Int32) (bu1 : Int32) (bu2 : Int32) (bu3 : Int32) (bu4 : Int32) (bu5 : Int32) (bu6 : Int32) (bu7 : Int32) (ou0 : Int32) (ou1 : Int32) (ou2 : Int32) (ou3 : Int32) (ou4 : Int32) (ou5 : Int32) (ou6 : Int32) (ou7 : Int32) (bb1 : Nat) (ob1 : Nat) (bb2 : Nat) (ob2 : Nat) (bb3 : Nat) (ob3 : Nat) (bb4 : Nat) (ob4 : Nat) (bb5 : Nat) (ob5 : Nat) (bf1 : Nat → Int32) (of1 : Nat → Int32) (bf2 : Nat → Int32) (of2 : Nat → Int32) (bf3 : Nat → Int32) (of3 : Nat → Int32) (bf4 : Nat → Int32) (of4 : Nat → Int32) (bf5 : Nat → Int32) (of5 : Nat → Int32) (nv0 : Int32) (nv1 : Int32) (nv2 : Int32) (nv3 : Int32) (nv5 : Int32) (nhh : Nat) (nww : Nat) (nkk : Nat) (nb1 : Nat) (nb2 : Nat) (nb3 : Nat) (nb4 : Nat) (nb5 : Nat) (ng1 : Nat → Int32) (ng2 : Nat → Int32) (ng3 : Nat → Int32) (ng4 : Nat → Int32) (ng5 : Nat → Int32) (k0 : Int32) (k1 : Int32) (nhb : nhh ≤ 999) (nwb : nww ≤ 6) (nkb : nkk ≤ 6) : Met l yX7_byTurns wsX7_byTurns ({ frames := 11, cells := 0, slots := 0, locals := 253 }) (va_Pc [.ref x, .int k0, .int k1] (fun U => U.heap.size = sz ∧ va_P (dC, dI) vwCl [(xo_7_rrrrrrrrrii x ro ta no ac im tr pl cs ak xf xg), (xo_4_rri pl bo ou phr), (xo_3_iiiiiiiirrrrr bo bu0 bu1 bu2 bu3 bu4 bu5 bu6 bu7 bb1 bb2 bb3 bb4 bb5), (xI bb1 cI 6 bf1), (xI bb2 cI 6 bf2), (xI bb3 cI 6 bf3), (xI bb4 cI 6 bf4), (xI bb5 cI 6 bf5), (xo_3_iiiiiiiirrrrr ou ou0 ou1 ou2 ou3 ou4 ou5 ou6 ou7 ob1 ob2 ob3 ob4 ob5), (xI ob1 cI 6 of1), (xI ob2 cI 6 of2), (xI ob3 cI 6 of3), (xI ob4 cI 6 of4), (xI ob5 cI 6 of5), (xo_3_iiiiiiiirrrrr no nv0 nv1 nv2 nv3 (nI nhh) nv5 (nI nww) (nI nkk) nb1 nb2 nb3 nb4 nb5), (xI nb1 cI 6 ng1), (xI nb2 cI 6 ng2), (xI nb3 cI 6 ng3), (xI nb4 cI 6 ng4), (xI nb5 cI 6 ng5)] U.heap ∧ va_K (dC, dI) vwCl [(cI, .int), (cZ, .boolean), (cL, .object RX3), (cJ, .array .int)] U ∧ va_D (fun _ => True) [(xo_7_rrrrrrrrrii x ro ta no ac im tr pl cs ak xf xg), (xo_4_rri pl bo ou phr), (xo_3_iiiiiiiirrrrr bo bu0 bu1 bu2 bu3 bu4 bu5 bu6 bu7 bb1 bb2 bb3 bb4 bb5), (xI bb1 cI 6 bf1), (xI bb2 cI 6 bf2), (xI bb3 cI 6 bf3), (xI bb4 cI 6 bf4), (xI bb5 cI 6 bf5), (xo_3_iiiiiiiirrrrr ou ou0 ou1 ou2 ou3 ou4 ou5 ou6 ou7 ob1 ob2 ob3 ob4 ob5), (xI ob1 cI 6 of1), (xI ob2 cI 6 of2), (xI ob3 cI 6 of3), (xI ob4 cI 6 of4), (xI ob5 cI 6 of5), (xo_3_iiiiiiiirrrrr no nv0 nv1 nv2 nv3 (nI nhh) nv5 (nI nww) (nI nkk) nb1 nb2 nb3 nb4 nb5), (xI nb1 cI 6 ng1), (xI nb2 cI 6 ng2), (xI nb3 cI 6 ng3), (xI nb4 cI 6 ng4), (xI nb5 cI 6 ng5)])) (va_Qi (fun r (_ : Unit) => True) (fun (_ : Unit) t => ∃ (phrn : Int32) (bu0n : Int32) (bu1n : Int32) (bu2n : Int32) (bu3n : Int32) (bu4n : Int32) (bu5n : Int32) (bu6n : Int32) (bu7n : Int32) (ou0n : Int32) (ou1n : Int32) (ou2n : Int32) (ou3n : Int32) (ou4n : Int32) (ou5n : Int32) (ou6n : Int32) (ou7n : Int32) (bf1n : Nat → Int32) (of1n : Nat → Int32) (bf2n : Nat → Int32) (of2n : Nat → Int32) (bf3n : Nat → Int32) (of3n : Nat → Int32) (bf4n : Nat → Int32) (of4n : Nat → Int32) (bf5n : Nat → Int32) (of5n : Nat → Int32), va_P (dC, dI) vwCl [(xo_7_rrrrrrrrrii x ro ta no ac im tr pl cs ak xf xg), (xo_4_rri pl bo ou phrn), (xo_3_iiiiiiiirrrrr bo bu0n bu1n bu2n bu3n bu4n bu5n bu6n bu7n bb1 bb2 bb3 bb4 bb5), (xI bb1 cI 6 bf1n), (xI bb2 cI 6 bf2n), (xI bb3 cI 6 bf3n), (xI bb4 cI 6 bf4n), (xI bb5 cI 6 bf5n), (xo_3_iiiiiiiirrrrr ou ou0n ou1n ou2n ou3n ou4n ou5n ou6n ou7n ob1 ob2 ob3 ob4 ob5), (xI ob1 cI 6 of1n), (xI ob2 cI 6 of2n), (xI ob3 cI 6 of3n), (xI ob4 cI 6 of4n), (xI ob5 cI 6 of5n), (xo_3_iiiiiiiirrrrr no nv0 nv1 nv2 nv3 (nI nhh) nv5 (nI nww) (nI nkk) nb1 nb2 nb3 nb4 nb5), (xI nb1 cI 6 ng1), (xI nb2 cI 6 ng2), (xI nb3 cI 6 ng3), (xI nb4 cI 6 ng4), (xI nb5 cI 6 ng5)] t.heap ∧ va_D (va_A [(xo_7_rrrrrrrrrii x ro ta no ac im tr pl cs ak xf xg), (xo_4_rri pl bo ou phr), (xo_3_iiiiiiiirrrrr bo bu0 bu1 bu2 bu3 bu4 bu5 bu6 bu7 bb1 bb2 bb3 bb4 bb5), (xI bb1 cI 6 bf1), (xI bb2 cI 6 bf2), (xI bb3 cI 6 bf3), (xI bb4 cI 6 bf4), (xI bb5 cI 6 bf5), (xo_3_iiiiiiiirrrrr ou ou0 ou1 ou2 ou3 ou4 ou5 ou6 ou7 ob1 ob2 ob3 ob4 ob5), (xI ob1 cI 6 of1), (xI ob2 cI 6 of2), (xI ob3 cI 6 of3), (xI ob4 cI 6 of4), (xI ob5 cI 6 of5), (xo_3_iiiiiiiirrrrr no nv0 nv1 nv2 nv3 (nI nhh) nv5 (nI nww) (nI nkk) nb1 nb2 nb3 nb4 nb5), (xI nb1 cI 6 ng1), (xI nb2 cI 6 ng2), (xI nb3 cI 6 ng3), (xI nb4 cI 6 ng4), (xI nb5 cI 6 ng5)] sz) [(xo_7_rrrrrrrrrii x ro ta no ac im tr pl cs ak xf xg), (xo_4_rri pl bo ou phrn), (xo_3_iiiiiiiirrrrr bo bu0n bu1n bu2n bu3n bu4n bu5n bu6n bu7n bb1 bb2 bb3 bb4 bb5), (xI bb1 cI 6 bf1n), (xI bb2 cI 6 bf2n), (xI bb3 cI 6 bf3n), (xI bb4 cI 6 bf4n), (xI bb5 cI 6 bf5n), (xo_3_iiiiiiiirrrrr ou ou0n ou1n ou2n ou3n ou4n ou5n ou6n ou7n ob1 ob2 ob3 ob4 ob5), (xI ob1 cI 6 of1n), (xI ob2 cI 6 of2n), (xI ob3 cI 6 of3n), (xI ob4 cI 6 of4n), (xI ob5 cI 6 of5n), (xo_3_iiiiiiiirrrrr no nv0 nv1 nv2 nv3 (nI nhh) nv5 (nI nww) (nI nkk) nb1 nb2 nb3 nb4 nb5), (xI nb1 cI 6 ng1), (xI nb2 cI 6 ng2), (xI nb3 cI 6 ng3), (xI nb4 cI 6 ng4), (xI nb5 cI 6 ng5)]) (va_A [(xo_7_rrrrrrrrrii x ro ta no ac im tr pl cs ak xf xg), (xo_4_rri pl bo ou phr), (xo_3_iiiiiiiirrrrr bo bu0 bu1 bu2 bu3 bu4 bu5 bu6 bu7 bb1 bb2 bb3 bb4 bb5), (xI bb1 cI 6 bf1), (xI bb2 cI 6 bf2), (xI bb3 cI 6 bf3), (xI bb4 cI 6 bf4), (xI bb5 cI 6 bf5), (xo_3_iiiiiiiirrrrr ou ou0 ou1 ou2 ou3 ou4 ou5 ou6 ou7 ob1 ob2 ob3 ob4 ob5), (xI ob1 cI 6 of1), (xI ob2 cI 6 of2), (xI ob3 cI 6 of3), (xI ob4 cI 6 of4), (xI ob5 cI 6 of5), (xo_3_iiiiiiiirrrrr no nv0 nv1 nv2 nv3 (nI nhh) nv5 (nI nww) (nI nkk) nb1 nb2 nb3 nb4 nb5), (xI nb1 cI 6 ng1), (xI nb2 cI 6 ng2), (xI nb3 cI 6 ng3), (xI nb4 cI 6 ng4), (xI nb5 cI 6 ng5)] sz)) 0 0 (va_A [(xo_7_rrrrrrrrrii x ro ta no ac im tr pl cs ak xf xg), (xo_4_rri pl bo ou phr), (xo_3_iiiiiiiirrrrr bo bu0 bu1 bu2 bu3 bu4 bu5 bu6 bu7 bb1 bb2 bb3 bb4 bb5), (xI bb1 cI 6 bf1), (xI bb2 cI 6 bf2), (xI bb3 cI 6 bf3), (xI bb4 cI 6 bf4), (xI bb5 cI 6 bf5), (xo_3_iiiiiiiirrrrr ou ou0 ou1 ou2 ou3 ou4 ou5 ou6 ou7 ob1 ob2 ob3 ob4 ob5), (xI ob1 cI 6 of1), (xI ob2 cI 6 of2), (xI ob3 cI 6 of3), (xI ob4 cI 6 of4), (xI ob5 cI 6 of5), (xo_3_iiiiiiiirrrrr no nv0 nv1 nv2 nv3 (nI nhh) nv5 (nI nww) (nI nkk) nb1 nb2 nb3 nb4 nb5), (xI nb1 cI 6 ng1), (xI nb2 cI 6 ng2), (xI nb3 cI 6 ng3), (xI nb4 cI 6 ng4), (xI nb5 cI 6 ng5)] sz) := by
  refine Met.ofW (cc := cX7_byTurns) (maxL := 3) (ret := (some .int)) (by decide) rfl ?_
  intro p e s m args below meth c s₁ B hml hv
  obtain ⟨rfl, hsz, hP, hK, hD0⟩ := hv
  have hx := B.exec
  have hb := B.bytes
  have hr := B.returns
  have hts := atoms_spec (ws := wsX7_byTurns) B.pre
  have hown : s.vm.findClass RX7 = some m.cls := findClass_of_methodNamed B.named
  have hlocks := B.notSynchronized
  subst hsz
  have hD := hD0.self (sz := s.heap.size)
  generalize hAe : va_A [(xo_7_rrrrrrrrrii x ro ta no ac im tr pl cs ak xf xg), (xo_4_rri pl bo ou phr), (xo_3_iiiiiiiirrrrr bo bu0 bu1 bu2 bu3 bu4 bu5 bu6 bu7 bb1 bb2 bb3 bb4 bb5), (xI bb1 cI 6 bf1), (xI bb2 cI 6 bf2), (xI bb3 cI 6 bf3), (xI bb4 cI 6 bf4), (xI bb5 cI 6 bf5), (xo_3_iiiiiiiirrrrr ou ou0 ou1 ou2 ou3 ou4 ou5 ou6 ou7 ob1 ob2 ob3 ob4 ob5), (xI ob1 cI 6 of1), (xI ob2 cI 6 of2), (xI ob3 cI 6 of3), (xI ob4 cI 6 of4), (xI ob5 cI 6 of5), (xo_3_iiiiiiiirrrrr no nv0 nv1 nv2 nv3 (nI nhh) nv5 (nI nww) (nI nkk) nb1 nb2 nb3 nb4 nb5), (xI nb1 cI 6 ng1), (xI nb2 cI 6 ng2), (xI nb3 cI 6 ng3), (xI nb4 cI 6 ng4), (xI nb5 cI 6 ng5)] s.heap.size = A at hD ⊢
  have hA : ∀ q : Nat, s.heap.size ≤ q → A q := fun q h => by rw [← hAe]; exact Or.inr h
  have hS : va_S A s.heap s.heap [] := va_S.rf
  have hP : va_P (dC, dI) vwCl [(xo_7_rrrrrrrrrii x ro ta no ac im tr pl cs ak xf xg), (xo_4_rri pl bo ou phr), (xo_3_iiiiiiiirrrrr bo bu0 bu1 bu2 bu3 bu4 bu5 bu6 bu7 bb1 bb2 bb3 bb4 bb5), (xI bb1 cI 6 bf1), (xI bb2 cI 6 bf2), (xI bb3 cI 6 bf3), (xI bb4 cI 6 bf4), (xI bb5 cI 6 bf5), (xo_3_iiiiiiiirrrrr ou ou0 ou1 ou2 ou3 ou4 ou5 ou6 ou7 ob1 ob2 ob3 ob4 ob5), (xI ob1 cI 6 of1), (xI ob2 cI 6 of2), (xI ob3 cI 6 of3), (xI ob4 cI 6 of4), (xI ob5 cI 6 of5), (xo_3_iiiiiiiirrrrr no nv0 nv1 nv2 nv3 (nI nhh) nv5 (nI nww) (nI nkk) nb1 nb2 nb3 nb4 nb5), (xI nb1 cI 6 ng1), (xI nb2 cI 6 ng2), (xI nb3 cI 6 ng3), (xI nb4 cI 6 ng4), (xI nb5 cI 6 ng5)] s.heap := hP
  have hl := lv_entry ([.ref x, .int k0, .int k1]) (n := 3) (Nat.le_of_ble_eq_true rfl)
  rw [lg_entry_eq]
  generalize (lg_sl ([.ref x, .int k0, .int k1]) ++ List.replicate (3 - (lg_sl ([.ref x, .int k0, .int k1])).length) Slot.unset).toArray = ls at hl ⊢
  have hl : lv_has ls 3 [(0, .ref x), (1, .int k0), (2, .int k1)] := hl
  refine lv_aload_n hx hb dX7_byTurns_0 rfl (lv_at hl 0 rfl) ?_
  refine va_get (D := (dC, dI)) (ci := 7) (v := .ref no) (C := RX7) (T := TX7) (N := 11) hx hb hts i_X7_byTurns_X7 hown hK hP 0 rfl rfl 2 (by decide) (hts _ mx_X7_byTurns_1) (fun _ h9 => h9) rfl dX7_byTurns_1 ?_
  have hPc_1 := hP.sub (ws' := [(xo_3_iiiiiiiirrrrr no nv0 nv1 nv2 nv3 (nI nhh) nv5 (nI nww) (nI nkk) nb1 nb2 nb3 nb4 nb5), (xI nb1 cI 6 ng1), (xI nb2 cI 6 ng2), (xI nb3 cI 6 ng3), (xI nb4 cI 6 ng4), (xI nb5 cI 6 ng5)]) [14, 15, 16, 17, 18, 19] rfl
  refine vp_callSi (W.runV (As := []) (rest := []) ⟨hx, hb, hml, hown, hts⟩ (r_X3_isTold l dC dI cI cZ cL cJ no nv0 nv1 nv2 nv3 nv5 nhh nww nkk nb1 nb2 nb3 nb4 nb5 ng1 ng2 ng3 ng4 ng5 (by omega) (nwb) (nkb)) (cwV 0 hts gX7_byTurns_X3_isTold rfl rfl rfl (by decide +kernel) ⟨Nat.le_of_ble_eq_true rfl, Nat.le_of_ble_eq_true rfl⟩) (pvP 3 14 hK hP rfl rfl hPc_1) rfl rfl hl.1 rfl (lv_room (Nat.le_of_ble_eq_true rfl)) dX7_byTurns_4 ⟨Nat.le_of_ble_eq_true rfl, Nat.le_of_ble_eq_true rfl⟩) (fun r_1 h_1 => ?_)
  rcases h_1 with ⟨h_1, f_1_0_0⟩ | ⟨h_1, f_1_1_0⟩
  · subst h_1
    refine lv_if_ne (tgt := 13) hx hb dX7_byTurns_7 (by decide) (fun c_ => absurd (by decide) c_) (fun _ => ?_)
    refine lv_ldc (own := RX7) (v := (-1000002)) hx hb hown (hts _ mx_X7_byTurns_2) dX7_byTurns_10 ?_
    have hX9 := cut2 (wc := [(xo_7_rrrrrrrrrii x ro ta no ac im tr pl cs ak xf xg), (xo_4_rri pl bo ou phr), (xo_3_iiiiiiiirrrrr bo bu0 bu1 bu2 bu3 bu4 bu5 bu6 bu7 bb1 bb2 bb3 bb4 bb5), (xI bb1 cI 6 bf1), (xI bb2 cI 6 bf2), (xI bb3 cI 6 bf3), (xI bb4 cI 6 bf4), (xI bb5 cI 6 bf5), (xo_3_iiiiiiiirrrrr ou ou0 ou1 ou2 ou3 ou4 ou5 ou6 ou7 ob1 ob2 ob3 ob4 ob5), (xI ob1 cI 6 of1), (xI ob2 cI 6 of2), (xI ob3 cI 6 of3), (xI ob4 cI 6 of4), (xI ob5 cI 6 of5), (xo_3_iiiiiiiirrrrr no nv0 nv1 nv2 nv3 (nI nhh) nv5 (nI nww) (nI nkk) nb1 nb2 nb3 nb4 nb5), (xI nb1 cI 6 ng1), (xI nb2 cI 6 ng2), (xI nb3 cI 6 ng3), (xI nb4 cI 6 ng4), (xI nb5 cI 6 ng5)]) hP hD [0, 1, 2, 3, 4, 5, 6, 7, 8, 9, 10, 11, 12, 13, 14, 15, 16, 17, 18, 19] (by decide +kernel) rfl
    exact W.iret (v := (-1000002)) hx hb hr (fun t ht hW => ⟨⟨(-1000002), (), rfl, trivial, ⟨phr, bu0, bu1, bu2, bu3, bu4, bu5, bu6, bu7, ou0, ou1, ou2, ou3, ou4, ou5, ou6, ou7, bf1, of1, bf2, of2, bf3, of3, bf4, of4, bf5, of5, va_Ht ht hX9.1, hX9.2⟩⟩, hS.F ht⟩) hS.2.2 dX7_byTurns_12
  · subst h_1
    refine lv_if_ne (tgt := 13) hx hb dX7_byTurns_7 (by decide) (fun _ => ?_) (fun c_ => absurd c_ (by decide))
    refine lv_iload_n hx hb dX7_byTurns_13 rfl (lv_at hl 1 rfl) ?_
    refine lv_if_lt (tgt := 33) hx hb dX7_byTurns_14 (by decide) (fun c_4 => ?_) (fun c_4 => ?_)
    · skip
      refine lv_ldc (own := RX7) (v := (-1000001)) hx hb hown (hts _ mx_X7_byTurns_3) dX7_byTurns_33 ?_
      have hX9 := cut2 (wc := [(xo_7_rrrrrrrrrii x ro ta no ac im tr pl cs ak xf xg), (xo_4_rri pl bo ou phr), (xo_3_iiiiiiiirrrrr bo bu0 bu1 bu2 bu3 bu4 bu5 bu6 bu7 bb1 bb2 bb3 bb4 bb5), (xI bb1 cI 6 bf1), (xI bb2 cI 6 bf2), (xI bb3 cI 6 bf3), (xI bb4 cI 6 bf4), (xI bb5 cI 6 bf5), (xo_3_iiiiiiiirrrrr ou ou0 ou1 ou2 ou3 ou4 ou5 ou6 ou7 ob1 ob2 ob3 ob4 ob5), (xI ob1 cI 6 of1), (xI ob2 cI 6 of2), (xI ob3 cI 6 of3), (xI ob4 cI 6 of4), (xI ob5 cI 6 of5), (xo_3_iiiiiiiirrrrr no nv0 nv1 nv2 nv3 (nI nhh) nv5 (nI nww) (nI nkk) nb1 nb2 nb3 nb4 nb5), (xI nb1 cI 6 ng1), (xI nb2 cI 6 ng2), (xI nb3 cI 6 ng3), (xI nb4 cI 6 ng4), (xI nb5 cI 6 ng5)]) hP hD [0, 1, 2, 3, 4, 5, 6, 7, 8, 9, 10, 11, 12, 13, 14, 15, 16, 17, 18, 19] (by decide +kernel) rfl
      exact W.iret (v := (-1000001)) hx hb hr (fun t ht hW => ⟨⟨(-1000001), (), rfl, trivial, ⟨phr, bu0, bu1, bu2, bu3, bu4, bu5, bu6, bu7, ou0, ou1, ou2, ou3, ou4, ou5, ou6, ou7, bf1, of1, bf2, of2, bf3, of3, bf4, of4, bf5, of5, va_Ht ht hX9.1, hX9.2⟩⟩, hS.F ht⟩) hS.2.2 dX7_byTurns_35
    · skip
      refine lv_iload_n hx hb dX7_byTurns_17 rfl (lv_at hl 1 rfl) ?_
      refine lv_iconst (v := 4) hx hb dX7_byTurns_18 (by decide) ?_
      refine lv_icmp_gt (tgt := 33) hx hb dX7_byTurns_19 (by decide) (fun c_5 => ?_) (fun c_5 => ?_)
      · skip
        refine lv_ldc (own := RX7) (v := (-1000001)) hx hb hown (hts _ mx_X7_byTurns_3) dX7_byTurns_33 ?_
        have hX9 := cut2 (wc := [(xo_7_rrrrrrrrrii x ro ta no ac im tr pl cs ak xf xg), (xo_4_rri pl bo ou phr), (xo_3_iiiiiiiirrrrr bo bu0 bu1 bu2 bu3 bu4 bu5 bu6 bu7 bb1 bb2 bb3 bb4 bb5), (xI bb1 cI 6 bf1), (xI bb2 cI 6 bf2), (xI bb3 cI 6 bf3), (xI bb4 cI 6 bf4), (xI bb5 cI 6 bf5), (xo_3_iiiiiiiirrrrr ou ou0 ou1 ou2 ou3 ou4 ou5 ou6 ou7 ob1 ob2 ob3 ob4 ob5), (xI ob1 cI 6 of1), (xI ob2 cI 6 of2), (xI ob3 cI 6 of3), (xI ob4 cI 6 of4), (xI ob5 cI 6 of5), (xo_3_iiiiiiiirrrrr no nv0 nv1 nv2 nv3 (nI nhh) nv5 (nI nww) (nI nkk) nb1 nb2 nb3 nb4 nb5), (xI nb1 cI 6 ng1), (xI nb2 cI 6 ng2), (xI nb3 cI 6 ng3), (xI nb4 cI 6 ng4), (xI nb5 cI 6 ng5)]) hP hD [0, 1, 2, 3, 4, 5, 6, 7, 8, 9, 10, 11, 12, 13, 14, 15, 16, 17, 18, 19] (by decide +kernel) rfl
        exact W.iret (v := (-1000001)) hx hb hr (fun t ht hW => ⟨⟨(-1000001), (), rfl, trivial, ⟨phr, bu0, bu1, bu2, bu3, bu4, bu5, bu6, bu7, ou0, ou1, ou2, ou3, ou4, ou5, ou6, ou7, bf1, of1, bf2, of2, bf3, of3, bf4, of4, bf5, of5, va_Ht ht hX9.1, hX9.2⟩⟩, hS.F ht⟩) hS.2.2 dX7_byTurns_35
      · skip
        refine lv_iload_n hx hb dX7_byTurns_22 rfl (lv_at hl 2 rfl) ?_
        refine lv_iconst (v := 1) hx hb dX7_byTurns_23 (by decide) ?_
        refine lv_icmp_lt (tgt := 33) hx hb dX7_byTurns_24 (by decide) (fun c_6 => ?_) (fun c_6 => ?_)
        · skip
          refine lv_ldc (own := RX7) (v := (-1000001)) hx hb hown (hts _ mx_X7_byTurns_3) dX7_byTurns_33 ?_
          have hX9 := cut2 (wc := [(xo_7_rrrrrrrrrii x ro ta no ac im tr pl cs ak xf xg), (xo_4_rri pl bo ou phr), (xo_3_iiiiiiiirrrrr bo bu0 bu1 bu2 bu3 bu4 bu5 bu6 bu7 bb1 bb2 bb3 bb4 bb5), (xI bb1 cI 6 bf1), (xI bb2 cI 6 bf2), (xI bb3 cI 6 bf3), (xI bb4 cI 6 bf4), (xI bb5 cI 6 bf5), (xo_3_iiiiiiiirrrrr ou ou0 ou1 ou2 ou3 ou4 ou5 ou6 ou7 ob1 ob2 ob3 ob4 ob5), (xI ob1 cI 6 of1), (xI ob2 cI 6 of2), (xI ob3 cI 6 of3), (xI ob4 cI 6 of4), (xI ob5 cI 6 of5), (xo_3_iiiiiiiirrrrr no nv0 nv1 nv2 nv3 (nI nhh) nv5 (nI nww) (nI nkk) nb1 nb2 nb3 nb4 nb5), (xI nb1 cI 6 ng1), (xI nb2 cI 6 ng2), (xI nb3 cI 6 ng3), (xI nb4 cI 6 ng4), (xI nb5 cI 6 ng5)]) hP hD [0, 1, 2, 3, 4, 5, 6, 7, 8, 9, 10, 11, 12, 13, 14, 15, 16, 17, 18, 19] (by decide +kernel) rfl
          exact W.iret (v := (-1000001)) hx hb hr (fun t ht hW => ⟨⟨(-1000001), (), rfl, trivial, ⟨phr, bu0, bu1, bu2, bu3, bu4, bu5, bu6, bu7, ou0, ou1, ou2, ou3, ou4, ou5, ou6, ou7, bf1, of1, bf2, of2, bf3, of3, bf4, of4, bf5, of5, va_Ht ht hX9.1, hX9.2⟩⟩, hS.F ht⟩) hS.2.2 dX7_byTurns_35
        · skip
          refine lv_iload_n hx hb dX7_byTurns_27 rfl (lv_at hl 2 rfl) ?_
          refine lv_bipush (v := 20) hx hb dX7_byTurns_28 (by decide) ?_
          refine lv_icmp_le (tgt := 36) hx hb dX7_byTurns_30 (by decide) (fun c_7 => ?_) (fun c_7 => ?_)
          · skip
            obtain ⟨j_8, hj_8, rfl⟩ := nat_le (n := 4) c_4 rfl (le_nlt c_5) (by decide)
            obtain ⟨j_9, hj_9, rfl⟩ := nat_le (n := 20) (nn_1 c_6) rfl c_7 (by decide)
            refine lv_aload_n hx hb dX7_byTurns_36 rfl (lv_at hl 0 rfl) ?_
            refine va_get (D := (dC, dI)) (ci := 7) (v := .ref pl) (C := RX7) (T := TX7) (N := 11) hx hb hts i_X7_byTurns_X7 hown hK hP 0 rfl rfl 6 (by decide) (hts _ mx_X7_byTurns_4) (fun _ h9 => h9) rfl dX7_byTurns_37 ?_
            refine lv_aload_n hx hb dX7_byTurns_40 rfl (lv_at hl 0 rfl) ?_
            refine va_get (D := (dC, dI)) (ci := 7) (v := .ref no) (C := RX7) (T := TX7) (N := 11) hx hb hts i_X7_byTurns_X7 hown hK hP 0 rfl rfl 2 (by decide) (hts _ mx_X7_byTurns_1) (fun _ h9 => h9) rfl dX7_byTurns_41 ?_
            refine lv_iload_n hx hb dX7_byTurns_44 rfl (lv_at hl 1 rfl) ?_
            refine lv_iload_n hx hb dX7_byTurns_45 rfl (lv_at hl 2 rfl) ?_
            have hc_10 := cutW (wc := [(xo_4_rri pl bo ou phr), (xo_3_iiiiiiiirrrrr bo bu0 bu1 bu2 bu3 bu4 bu5 bu6 bu7 bb1 bb2 bb3 bb4 bb5), (xI bb1 cI 6 bf1), (xI bb2 cI 6 bf2), (xI bb3 cI 6 bf3), (xI bb4 cI 6 bf4), (xI bb5 cI 6 bf5), (xo_3_iiiiiiiirrrrr ou ou0 ou1 ou2 ou3 ou4 ou5 ou6 ou7 ob1 ob2 ob3 ob4 ob5), (xI ob1 cI 6 of1), (xI ob2 cI 6 of2), (xI ob3 cI 6 of3), (xI ob4 cI 6 of4), (xI ob5 cI 6 of5), (xo_3_iiiiiiiirrrrr no nv0 nv1 nv2 nv3 (nI nhh) nv5 (nI nww) (nI nkk) nb1 nb2 nb3 nb4 nb5), (xI nb1 cI 6 ng1), (xI nb2 cI 6 ng2), (xI nb3 cI 6 ng3), (xI nb4 cI 6 ng4), (xI nb5 cI 6 ng5)]) hP hD hS hA [1, 2, 3, 4, 5, 6, 7, 8, 9, 10, 11, 12, 13, 14, 15, 16, 17, 18, 19] (by decide +kernel) rfl
            refine va_calli (va_runV (As := [.ref no, .int (nI j_8), .int (nI j_9)]) (rest := []) ⟨hx, hb, hml, hown, hts⟩ (r_X4_comesTo l dC dI cI cZ cL cJ s.heap.size pl bo ou phr bu0 bu1 bu2 bu3 bu4 bu5 bu6 bu7 ou0 ou1 ou2 ou3 ou4 ou5 ou6 ou7 bb1 ob1 bb2 ob2 bb3 ob3 bb4 ob4 bb5 ob5 bf1 of1 bf2 of2 bf3 of3 bf4 of4 bf5 of5 nv0 nv1 nv2 nv3 nv5 nhh nww nkk nb1 nb2 nb3 nb4 nb5 ng1 ng2 ng3 ng4 ng5 no j_8 j_9 (nhb) (nwb) (nkb) (by omega) (by omega)) (cwV 3 hts gX7_byTurns_X4_comesTo rfl rfl rfl (by decide +kernel) ⟨Nat.le_of_ble_eq_true rfl, Nat.le_of_ble_eq_true rfl⟩) (pvW 4 1 hK hP rfl rfl hc_10) rfl rfl hl.1 rfl (lv_room (Nat.le_of_ble_eq_true rfl)) dX7_byTurns_46 ⟨Nat.le_of_ble_eq_true rfl, Nat.le_of_ble_eq_true rfl⟩) hS (fun q _ h => hc_10.2.2 q h) hc_10.2.2 (fun r_10 u_10 t_10 H1 locs ht hvm h_10 hB hz1 hk1 hS => ?_)
            refine xl_27_2 hB (fun phrn_10 bu0n_10 bu1n_10 bu2n_10 bu3n_10 bu4n_10 bu5n_10 bu6n_10 bu7n_10 ou0n_10 ou1n_10 ou2n_10 ou3n_10 ou4n_10 ou5n_10 ou6n_10 ou7n_10 bf1n_10 of1n_10 bf2n_10 of2n_10 bf3n_10 of3n_10 bf4n_10 of4n_10 bf5n_10 of5n_10 hP1 hD1 => ?_)
            clear hB
            rw [ht] at hP1
            obtain ⟨hP, hD⟩ := va_join (wr := [(xo_7_rrrrrrrrrii x ro ta no ac im tr pl cs ak xf xg)]) (w1 := [(xo_4_rri pl bo ou phrn_10), (xo_3_iiiiiiiirrrrr bo bu0n_10 bu1n_10 bu2n_10 bu3n_10 bu4n_10 bu5n_10 bu6n_10 bu7n_10 bb1 bb2 bb3 bb4 bb5), (xI bb1 cI 6 bf1n_10), (xI bb2 cI 6 bf2n_10), (xI bb3 cI 6 bf3n_10), (xI bb4 cI 6 bf4n_10), (xI bb5 cI 6 bf5n_10), (xo_3_iiiiiiiirrrrr ou ou0n_10 ou1n_10 ou2n_10 ou3n_10 ou4n_10 ou5n_10 ou6n_10 ou7n_10 ob1 ob2 ob3 ob4 ob5), (xI ob1 cI 6 of1n_10), (xI ob2 cI 6 of2n_10), (xI ob3 cI 6 of3n_10), (xI ob4 cI 6 of4n_10), (xI ob5 cI 6 of5n_10), (xo_3_iiiiiiiirrrrr no nv0 nv1 nv2 nv3 (nI nhh) nv5 (nI nww) (nI nkk) nb1 nb2 nb3 nb4 nb5), (xI nb1 cI 6 ng1), (xI nb2 cI 6 ng2), (xI nb3 cI 6 ng3), (xI nb4 cI 6 ng4), (xI nb5 cI 6 ng5)]) hP hD [1, 2, 3, 4, 5, 6, 7, 8, 9, 10, 11, 12, 13, 14, 15, 16, 17, 18, 19] [0] rfl rfl (by decide +kernel) (by decide +kernel) hk1 hc_10.2.2 hP1 hD1
            generalize H1 = H at hP hS ⊢
            have hP : va_P (dC, dI) vwCl [(xo_7_rrrrrrrrrii x ro ta no ac im tr pl cs ak xf xg), (xo_4_rri pl bo ou phrn_10), (xo_3_iiiiiiiirrrrr bo bu0n_10 bu1n_10 bu2n_10 bu3n_10 bu4n_10 bu5n_10 bu6n_10 bu7n_10 bb1 bb2 bb3 bb4 bb5), (xI bb1 cI 6 bf1n_10), (xI bb2 cI 6 bf2n_10), (xI bb3 cI 6 bf3n_10), (xI bb4 cI 6 bf4n_10), (xI bb5 cI 6 bf5n_10), (xo_3_iiiiiiiirrrrr ou ou0n_10 ou1n_10 ou2n_10 ou3n_10 ou4n_10 ou5n_10 ou6n_10 ou7n_10 ob1 ob2 ob3 ob4 ob5), (xI ob1 cI 6 of1n_10), (xI ob2 cI 6 of2n_10), (xI ob3 cI 6 of3n_10), (xI ob4 cI 6 of4n_10), (xI ob5 cI 6 of5n_10), (xo_3_iiiiiiiirrrrr no nv0 nv1 nv2 nv3 (nI nhh) nv5 (nI nww) (nI nkk) nb1 nb2 nb3 nb4 nb5), (xI nb1 cI 6 ng1), (xI nb2 cI 6 ng2), (xI nb3 cI 6 ng3), (xI nb4 cI 6 ng4), (xI nb5 cI 6 ng5)] H := hP
            have hD := dto hP hD
            have hX9 := cut2 (wc := [(xo_7_rrrrrrrrrii x ro ta no ac im tr pl cs ak xf xg), (xo_4_rri pl bo ou phrn_10), (xo_3_iiiiiiiirrrrr bo bu0n_10 bu1n_10 bu2n_10 bu3n_10 bu4n_10 bu5n_10 bu6n_10 bu7n_10 bb1 bb2 bb3 bb4 bb5), (xI bb1 cI 6 bf1n_10), (xI bb2 cI 6 bf2n_10), (xI bb3 cI 6 bf3n_10), (xI bb4 cI 6 bf4n_10), (xI bb5 cI 6 bf5n_10), (xo_3_iiiiiiiirrrrr ou ou0n_10 ou1n_10 ou2n_10 ou3n_10 ou4n_10 ou5n_10 ou6n_10 ou7n_10 ob1 ob2 ob3 ob4 ob5), (xI ob1 cI 6 of1n_10), (xI ob2 cI 6 of2n_10), (xI ob3 cI 6 of3n_10), (xI ob4 cI 6 of4n_10), (xI ob5 cI 6 of5n_10), (xo_3_iiiiiiiirrrrr no nv0 nv1 nv2 nv3 (nI nhh) nv5 (nI nww) (nI nkk) nb1 nb2 nb3 nb4 nb5), (xI nb1 cI 6 ng1), (xI nb2 cI 6 ng2), (xI nb3 cI 6 ng3), (xI nb4 cI 6 ng4), (xI nb5 cI 6 ng5)]) hP hD [0, 1, 2, 3, 4, 5, 6, 7, 8, 9, 10, 11, 12, 13, 14, 15, 16, 17, 18, 19] (by decide +kernel) rfl
            exact W.iret (v := r_10) hx hb hr (fun t ht hW => ⟨⟨r_10, (), rfl, trivial, ⟨phrn_10, bu0n_10, bu1n_10, bu2n_10, bu3n_10, bu4n_10, bu5n_10, bu6n_10, bu7n_10, ou0n_10, ou1n_10, ou2n_10, ou3n_10, ou4n_10, ou5n_10, ou6n_10, ou7n_10, bf1n_10, of1n_10, bf2n_10, of2n_10, bf3n_10, of3n_10, bf4n_10, of4n_10, bf5n_10, of5n_10, va_Ht ht hX9.1, hX9.2⟩⟩, hS.F ht⟩) hS.2.2 dX7_byTurns_49
          · skip
            refine lv_ldc (own := RX7) (v := (-1000001)) hx hb hown (hts _ mx_X7_byTurns_3) dX7_byTurns_33 ?_
            have hX9 := cut2 (wc := [(xo_7_rrrrrrrrrii x ro ta no ac im tr pl cs ak xf xg), (xo_4_rri pl bo ou phr), (xo_3_iiiiiiiirrrrr bo bu0 bu1 bu2 bu3 bu4 bu5 bu6 bu7 bb1 bb2 bb3 bb4 bb5), (xI bb1 cI 6 bf1), (xI bb2 cI 6 bf2), (xI bb3 cI 6 bf3), (xI bb4 cI 6 bf4), (xI bb5 cI 6 bf5), (xo_3_iiiiiiiirrrrr ou ou0 ou1 ou2 ou3 ou4 ou5 ou6 ou7 ob1 ob2 ob3 ob4 ob5), (xI ob1 cI 6 of1), (xI ob2 cI 6 of2), (xI ob3 cI 6 of3), (xI ob4 cI 6 of4), (xI ob5 cI 6 of5), (xo_3_iiiiiiiirrrrr no nv0 nv1 nv2 nv3 (nI nhh) nv5 (nI nww) (nI nkk) nb1 nb2 nb3 nb4 nb5), (xI nb1 cI 6 ng1), (xI nb2 cI 6 ng2), (xI nb3 cI 6 ng3), (xI nb4 cI 6 ng4), (xI nb5 cI 6 ng5)]) hP hD [0, 1, 2, 3, 4, 5, 6, 7, 8, 9, 10, 11, 12, 13, 14, 15, 16, 17, 18, 19] (by decide +kernel) rfl
            exact W.iret (v := (-1000001)) hx hb hr (fun t ht hW => ⟨⟨(-1000001), (), rfl, trivial, ⟨phr, bu0, bu1, bu2, bu3, bu4, bu5, bu6, bu7, ou0, ou1, ou2, ou3, ou4, ou5, ou6, ou7, bf1, of1, bf2, of2, bf3, of3, bf4, of4, bf5, of5, va_Ht ht hX9.1, hX9.2⟩⟩, hS.F ht⟩) hS.2.2 dX7_byTurns_35
