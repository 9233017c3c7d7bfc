/-! ends of an act's path, on the class: each conclusion by its own lemma -/
theorem kz_n {g : Prop} [Decidable g] {n : Nat} (h : ¬ g) : n = kpN g n := (if_neg h).symm
theorem kc_n {g : Prop} [Decidable g] {r : RF} {n : Nat} {a : AC} (h : ¬ g) : a = kpA g r n a := (if_neg h).symm
theorem kz_p {g : Prop} [Decidable g] {n z : Nat} (h : g) (e : z = ntN n) : z = kpN g n := e.trans (if_pos h).symm
theorem kc_p {g : Prop} [Decidable g] {r : RF} {q az qn zn : Nat} {V Vn : Nat → Nat → Int32} {G Gn : Nat → Nat → RF} (h : g) (hq : q < 24) (haz : az ≤ 24) (e3 : nrV (Vn q) (Gn q) = r) (e4 : ∀ i : Nat, i < 24 → i ≠ q → nrV (Vn i) (Gn i) = nrV (V i) (G i)) (e5 : qn = (q + 1) % 24) (e6 : zn = ntN az) : acX qn zn Vn Gn = kpA g r az (acX q az V G) := by
  rw [e5, e6]
  exact (acX_keep hq haz e3 e4).trans (if_pos h).symm
theorem wi_l {r : RF} {a b : Int32} (h : ¬ gd_wind r a b) : r = n_wind r a b := (if_neg h).symm
theorem wi_a {r : RF} {a b : Int32} (h : ¬ gd_wind r a b) : (-1000001 : Int32) = a_wind r a b := (if_neg h).symm
theorem cp_l {r : RF} (h : ¬ gd_cap r) : r = n_cap r := (if_neg h).symm
theorem cp_a {r : RF} (h : ¬ gd_cap r) : (-1000002 : Int32) = a_cap r := (if_neg h).symm
theorem lo_ng {r : RF} {a b c : Int32} (h : ¬ ok_loose r a b c) : ¬ gd_loose r a b c := fun q => h q.1
theorem lo_l {r : RF} {a b c : Int32} (h : ¬ gd_loose r a b c) : r = n_loose r a b c := (if_neg h).symm
theorem lo_a {r : RF} {a b c : Int32} (h : ¬ ok_loose r a b c) : (-1000001 : Int32) = a_loose r a b c := (if_pos h).symm
theorem se_l {r : RF} {n : Int32} (h : ¬ gd_sell r n) : r = n_sell r n := (if_neg h).symm
theorem se_g0 {r : RF} {n : Int32} (h : r 0 = 0) : ¬ gd_sell r n := fun q => q.1 h
theorem se_g1 {r : RF} {n : Int32} (h : n < 1) : ¬ gd_sell r n := fun q => q.2.1 (Or.inl h)
theorem se_g2 {r : RF} {n : Int32} (h : ¬ n ≤ 999) : ¬ gd_sell r n := fun q => q.2.1 (Or.inr (i_nle.mp h))
theorem se_a0 {r : RF} {n : Int32} (h : r 0 = 0) : (-1000002 : Int32) = a_sell r n := (if_pos h).symm
theorem se_a1 {r : RF} {n : Int32} (h : ¬ r 0 = 0) (q : n < 1 ∨ 999 < n) : (-1000001 : Int32) = a_sell r n := by
  unfold a_sell
  rw [if_neg h, if_pos q]
theorem hx_l {r : RF} {An : Nat} {Ac : AC} {n : Int32} (gg : ¬ gd_hrs r n) : r = (s_hrs r An Ac n).1 := by
  unfold s_hrs
  rw [if_neg gg]
theorem hx_z {r : RF} {An : Nat} {Ac : AC} {n : Int32} (gg : ¬ gd_hrs r n) : An = (s_hrs r An Ac n).2.1 := by
  unfold s_hrs
  rw [if_neg gg]
theorem hx_c {r : RF} {An : Nat} {Ac : AC} {n : Int32} (gg : ¬ gd_hrs r n) : Ac = (s_hrs r An Ac n).2.2 := by
  unfold s_hrs
  rw [if_neg gg]
theorem hx_g0 {r : RF} {n : Int32} (h : r 0 = 0) : ¬ gd_hrs r n := fun q => q.1 h
theorem hx_g1 {r : RF} {n : Int32} (h : n < 1) : ¬ gd_hrs r n := fun q => q.2.1 (Or.inl h)
theorem hx_g2 {r : RF} {n : Int32} (h : ¬ n ≤ 24) : ¬ gd_hrs r n := fun q => q.2.1 (Or.inr (i_nle.mp h))
theorem hx_a0 {r : RF} {n : Int32} (h : r 0 = 0) : (-1000002 : Int32) = a_hrs r n := (if_pos h).symm
theorem hx_a1 {r : RF} {n : Int32} (h : ¬ r 0 = 0) (q : n < 1 ∨ 24 < n) : (-1000001 : Int32) = a_hrs r n := by
  unfold a_hrs
  rw [if_neg h, if_pos q]
theorem un_l {r : RF} {az : Nat} {a : AC} (h : az = 0) : r = n_undo r az a := (if_pos h).symm
theorem un_a {az : Nat} (h : az = 0) : (-1000002 : Int32) = a_undo az := (if_pos h).symm
theorem un_c {q az : Nat} {V : Nat → Nat → Int32} {G : Nat → Nat → RF} (h : az = 0) : acX q az V G = dpA az (acX q az V G) := by
  subst h
  exact undo0.symm
section ENDX
variable {v0 v1 v2 v3 v5 : Int32} {hh ww kk : Nat} {g1 g2 g3 g4 g5 : RF}
theorem hz_0 (hL : okLv (nrm v0 v1 v2 v3 hh v5 ww kk g1 g2 g3 g4 g5)) (hb : hh ≤ 999) (wb : ww ≤ 6) (kb : kk ≤ 6) (h : ¬ 0 < v0) : nrm v0 v1 v2 v3 hh v5 ww kk g1 g2 g3 g4 g5 0 = 0 := ((tX hL wb kb (by omega)).1 h).1
theorem hz_1 (hL : okLv (nrm v0 v1 v2 v3 hh v5 ww kk g1 g2 g3 g4 g5)) (hb : hh ≤ 999) (wb : ww ≤ 6) (kb : kk ≤ 6) (h : 0 < v0) : ¬ nrm v0 v1 v2 v3 hh v5 ww kk g1 g2 g3 g4 g5 0 = 0 := ((tX hL wb kb (by omega)).2 h).1
theorem wi_g1 {a b : Int32} (h : a < 0 ∨ nI ww ≤ a) : ¬ gd_wind (nrm v0 v1 v2 v3 hh v5 ww kk g1 g2 g3 g4 g5) a b := by
  rintro ⟨⟨x, y⟩, -⟩
  rw [nr3] at y
  exact h.elim x y
theorem wi_g2 {r : RF} {a b : Int32} (h : b < 0) : ¬ gd_wind r a b := fun q => q.2 (Or.inl h)
theorem wi_g3 {r : RF} {a b : Int32} (h : ¬ b ≤ 4) : ¬ gd_wind r a b := fun q => q.2 (Or.inr (i_nle.mp h))
theorem wi_p {j : Nat} {b : Int32} (hj : j < ww) (hw : ww ≤ 6) (h1 : ¬ b < 0) (h2 : b ≤ 4) : gd_wind (nrm v0 v1 v2 v3 hh v5 ww kk g1 g2 g3 g4 g5) (nI j) b := ⟨by rw [nr3]; exact sB_ok hj (by omega), fun q => q.elim h1 (i_nlt.mpr h2)⟩
theorem wi_L {j : Nat} {b : Int32} {g : RF} (hj : j < ww) (hw : ww ≤ 6) (h1 : ¬ b < 0) (h2 : b ≤ 4) (e : g = upd g1 j b) : nrm v0 v1 v2 v3 hh v5 ww kk g g2 g3 g4 g5 = n_wind (nrm v0 v1 v2 v3 hh v5 ww kk g1 g2 g3 g4 g5) (nI j) b := by
  unfold n_wind
  rw [if_pos (wi_p hj hw h1 h2), nI_clamp (by omega), nrug1 hj hw, e]
theorem wi_A {j : Nat} {b x : Int32} (hj : j < ww) (hw : ww ≤ 6) (h1 : ¬ b < 0) (h2 : b ≤ 4) (e : x = g1 j) : x = a_wind (nrm v0 v1 v2 v3 hh v5 ww kk g1 g2 g3 g4 g5) (nI j) b := by
  unfold a_wind
  rw [if_pos (wi_p hj hw h1 h2), nI_clamp (by omega), nrg1 hj hw, e]
theorem cp_L {x : Int32} (g : gd_cap (nrm v0 v1 v2 v3 hh v5 ww kk g1 g2 g3 g4 g5)) (e : x = 1 - v3) : nrm v0 v1 v2 x hh v5 ww kk g1 g2 g3 g4 g5 = n_cap (nrm v0 v1 v2 v3 hh v5 ww kk g1 g2 g3 g4 g5) := by
  unfold n_cap
  rw [if_pos g, nr6, nru6, e]
theorem cp_A {x : Int32} (g : gd_cap (nrm v0 v1 v2 v3 hh v5 ww kk g1 g2 g3 g4 g5)) (e : x = 1 - v3) : x = a_cap (nrm v0 v1 v2 v3 hh v5 ww kk g1 g2 g3 g4 g5) := by
  unfold a_cap
  rw [if_pos g, nr6, e]
theorem cp_g (h : ¬ nrm v0 v1 v2 v3 hh v5 ww kk g1 g2 g3 g4 g5 0 = 0) : gd_cap (nrm v0 v1 v2 v3 hh v5 ww kk g1 g2 g3 g4 g5) := h
theorem cp_n (h : nrm v0 v1 v2 v3 hh v5 ww kk g1 g2 g3 g4 g5 0 = 0) : ¬ gd_cap (nrm v0 v1 v2 v3 hh v5 ww kk g1 g2 g3 g4 g5) := fun q => q h
theorem lo_g1 {a b c : Int32} (h : a < 0 ∨ nI kk ≤ a) : ¬ ok_loose (nrm v0 v1 v2 v3 hh v5 ww kk g1 g2 g3 g4 g5) a b c := by
  rintro ⟨⟨x, y⟩, -⟩
  rw [nr4] at y
  exact h.elim x y
theorem lo_g2 {a b c : Int32} (h : b < 0 ∨ v0 ≤ b) : ¬ ok_loose (nrm v0 v1 v2 v3 hh v5 ww kk g1 g2 g3 g4 g5) a b c := by
  rintro ⟨-, ⟨x, y⟩, -⟩
  rw [nr0] at y
  exact h.elim x y
theorem lo_g3 {r : RF} {a b c : Int32} (h : c < 1) : ¬ ok_loose r a b c := fun q => q.2.2 (Or.inl h)
theorem lo_g4 {r : RF} {a b c : Int32} (h : ¬ c ≤ 20) : ¬ ok_loose r a b c := fun q => q.2.2 (Or.inr (i_nle.mp h))
theorem lo_p {j : Nat} {b c : Int32} (hj : j < kk) (hk : kk ≤ 6) (b1 : ¬ b < 0) (b2 : ¬ v0 ≤ b) (c1 : ¬ c < 1) (c2 : c ≤ 20) : ok_loose (nrm v0 v1 v2 v3 hh v5 ww kk g1 g2 g3 g4 g5) (nI j) b c := ⟨by rw [nr4]; exact sB_ok hj (by omega), by rw [nr0]; exact ⟨b1, b2⟩, fun q => q.elim c1 (i_nlt.mpr c2)⟩
theorem lo_c {j : Nat} (hj : j < kk) (hk : kk ≤ 6) : nrm v0 v1 v2 v3 hh v5 ww kk g1 g2 g3 g4 g5 (26 + (nI j).toNatClampNeg) = g5 j := by
  rw [nI_clamp (by omega), nrg5 hj hk]
theorem lo_z {j : Nat} {b c : Int32} (hj : j < kk) (hk : kk ≤ 6) (e : g5 j = 0) : ¬ gd_loose (nrm v0 v1 v2 v3 hh v5 ww kk g1 g2 g3 g4 g5) (nI j) b c := fun q => q.2 ((lo_c hj hk).trans e)
theorem lo_a0 {j : Nat} {b c : Int32} (hj : j < kk) (hk : kk ≤ 6) (ok : ok_loose (nrm v0 v1 v2 v3 hh v5 ww kk g1 g2 g3 g4 g5) (nI j) b c) (e : g5 j = 0) : (-1000002 : Int32) = a_loose (nrm v0 v1 v2 v3 hh v5 ww kk g1 g2 g3 g4 g5) (nI j) b c := by
  unfold a_loose
  rw [if_neg (fun t => t ok), if_pos ((lo_c hj hk).trans e)]
theorem lo_q {j : Nat} {b c : Int32} (hj : j < kk) (hk : kk ≤ 6) (ok : ok_loose (nrm v0 v1 v2 v3 hh v5 ww kk g1 g2 g3 g4 g5) (nI j) b c) (ne : ¬ g5 j = 0) : gd_loose (nrm v0 v1 v2 v3 hh v5 ww kk g1 g2 g3 g4 g5) (nI j) b c := ⟨ok, fun q => ne ((lo_c hj hk).symm.trans q)⟩
theorem lo_L {j : Nat} {b c : Int32} {f3 f4 f5 : RF} (hj : j < kk) (hk : kk ≤ 6) (g : gd_loose (nrm v0 v1 v2 v3 hh v5 ww kk g1 g2 g3 g4 g5) (nI j) b c) (e3 : f3 = upd g3 j b) (e4 : f4 = upd g4 j c) (e5 : f5 = upd g5 j 0) : nrm v0 v1 v2 v3 hh v5 ww kk g1 g2 f3 f4 f5 = n_loose (nrm v0 v1 v2 v3 hh v5 ww kk g1 g2 g3 g4 g5) (nI j) b c := by
  unfold n_loose
  rw [if_pos g, nI_clamp (by omega), nrug5 hj hk, nrug3 hj hk, nrug4 hj hk, e3, e4, e5]
theorem lo_A {j : Nat} {b c x : Int32} {f3 f4 f5 : RF} (hj : j < kk) (hk : kk ≤ 6) (g : gd_loose (nrm v0 v1 v2 v3 hh v5 ww kk g1 g2 g3 g4 g5) (nI j) b c) (e3 : f3 = upd g3 j b) (e4 : f4 = upd g4 j c) (e5 : f5 = upd g5 j 0) (h : x = thR f5 0 kk) : x = a_loose (nrm v0 v1 v2 v3 hh v5 ww kk g1 g2 g3 g4 g5) (nI j) b c := by
  unfold a_loose
  rw [if_neg (fun t => t g.1), if_neg g.2, ← lo_L hj hk g e3 e4 e5, th_nrm hk, h]
theorem se_g3 {n : Int32} (h : ¬ n ≤ v5) : ¬ gd_sell (nrm v0 v1 v2 v3 hh v5 ww kk g1 g2 g3 g4 g5) n := fun q => q.2.2 (i_nle.mp h)
theorem se_a3 {n : Int32} (z : ¬ nrm v0 v1 v2 v3 hh v5 ww kk g1 g2 g3 g4 g5 0 = 0) (h1 : ¬ n < 1) (h2 : n ≤ 999) (h : ¬ n ≤ v5) : (-1000002 : Int32) = a_sell (nrm v0 v1 v2 v3 hh v5 ww kk g1 g2 g3 g4 g5) n := by
  have q : ¬ (n < 1 ∨ 999 < n) := fun t => t.elim h1 (i_nlt.mpr h2)
  have t : nrm v0 v1 v2 v3 hh v5 ww kk g1 g2 g3 g4 g5 7 < n := i_nle.mp h
  unfold a_sell
  rw [if_neg z, if_neg q, if_pos t]
theorem se_p {n : Int32} (z : ¬ nrm v0 v1 v2 v3 hh v5 ww kk g1 g2 g3 g4 g5 0 = 0) (h1 : ¬ n < 1) (h2 : n ≤ 999) (h : n ≤ v5) : gd_sell (nrm v0 v1 v2 v3 hh v5 ww kk g1 g2 g3 g4 g5) n := ⟨z, fun t => t.elim h1 (i_nlt.mpr h2), fun t => i_nlt.mpr h t⟩
theorem se_L {n x : Int32} (g : gd_sell (nrm v0 v1 v2 v3 hh v5 ww kk g1 g2 g3 g4 g5) n) (e : x = v5 - n) : nrm v0 v1 v2 v3 hh x ww kk g1 g2 g3 g4 g5 = n_sell (nrm v0 v1 v2 v3 hh v5 ww kk g1 g2 g3 g4 g5) n := by
  unfold n_sell
  rw [if_pos g, nr7, nru7, e]
theorem se_A {n x : Int32} (g : gd_sell (nrm v0 v1 v2 v3 hh v5 ww kk g1 g2 g3 g4 g5) n) (e : x = v5 - n) : x = a_sell (nrm v0 v1 v2 v3 hh v5 ww kk g1 g2 g3 g4 g5) n := by
  unfold a_sell
  rw [if_neg g.1, if_neg g.2.1, if_neg g.2.2, nr7, e]
end ENDX
theorem pr_1 {α β γ : Type} {s : α × β × γ} {a : α} {b : β} {c : γ} (e : s = (a, b, c)) : a = s.1 := by rw [e]
theorem pr_2 {α β γ : Type} {s : α × β × γ} {a : α} {b : β} {c : γ} (e : s = (a, b, c)) : b = s.2.1 := by rw [e]
theorem pr_3 {α β γ : Type} {s : α × β × γ} {a : α} {b : β} {c : γ} (e : s = (a, b, c)) : c = s.2.2 := by rw [e]
theorem dX7_cap_0 : decode cX7_cap 0 = .ok (.aload_n 0, 1) := dq_42 (by decide +kernel)
theorem dX7_cap_1 : decode cX7_cap 1 = .ok (.getfield 26, 3) := dq_180 (b1 := 0) (b2 := 26) (by decide +kernel) (by decide)
theorem dX7_cap_10 : decode cX7_cap 10 = .ok (.ldc 141, 2) := dq_18 (b1 := 141) (by decide +kernel) (by decide)
theorem dX7_cap_12 : decode cX7_cap 12 = .ok (.ireturn, 1) := dq_172 (by decide +kernel)
theorem dX7_cap_13 : decode cX7_cap 13 = .ok (.aload_n 0, 1) := dq_42 (by decide +kernel)
theorem dX7_cap_14 : decode cX7_cap 14 = .ok (.getfield 33, 3) := dq_180 (b1 := 0) (b2 := 33) (by decide +kernel) (by decide)
theorem dX7_cap_17 : decode cX7_cap 17 = .ok (.aload_n 0, 1) := dq_42 (by decide +kernel)
theorem dX7_cap_18 : decode cX7_cap 18 = .ok (.getfield 26, 3) := dq_180 (b1 := 0) (b2 := 26) (by decide +kernel) (by decide)
theorem dX7_cap_21 : decode cX7_cap 21 = .ok (.invokevirtual 151, 3) := dq_182 (b1 := 0) (b2 := 151) (by decide +kernel) (by decide)
theorem dX7_cap_24 : decode cX7_cap 24 = .ok (.aload_n 0, 1) := dq_42 (by decide +kernel)
theorem dX7_cap_25 : decode cX7_cap 25 = .ok (.getfield 26, 3) := dq_180 (b1 := 0) (b2 := 26) (by decide +kernel) (by decide)
theorem dX7_cap_28 : decode cX7_cap 28 = .ok (.invokevirtual 160, 3) := dq_182 (b1 := 0) (b2 := 160) (by decide +kernel) (by decide)
theorem dX7_cap_31 : decode cX7_cap 31 = .ok (.aload_n 0, 1) := dq_42 (by decide +kernel)
theorem dX7_cap_32 : decode cX7_cap 32 = .ok (.getfield 26, 3) := dq_180 (b1 := 0) (b2 := 26) (by decide +kernel) (by decide)
theorem dX7_cap_35 : decode cX7_cap 35 = .ok (.getfield 163, 3) := dq_180 (b1 := 0) (b2 := 163) (by decide +kernel) (by decide)
theorem dX7_cap_38 : decode cX7_cap 38 = .ok (.ireturn, 1) := dq_172 (by decide +kernel)
theorem dX7_cap_4 : decode cX7_cap 4 = .ok (.invokevirtual 145, 3) := dq_182 (b1 := 0) (b2 := 145) (by decide +kernel) (by decide)
theorem dX7_cap_7 : decode cX7_cap 7 = .ok (.ifCond .ne 6, 3) := dq_154 (b1 := 0) (b2 := 6) (by decide +kernel) (by decide)
theorem dX7_wind_0 : decode cX7_wind 0 = .ok (.aload_n 0, 1) := dq_42 (by decide +kernel)
theorem dX7_wind_1 : decode cX7_wind 1 = .ok (.getfield 26, 3) := dq_180 (b1 := 0) (b2 := 26) (by decide +kernel) (by decide)
theorem dX7_wind_11 : decode cX7_wind 11 = .ok (.iload_n 2, 1) := dq_28 (by decide +kernel)
theorem dX7_wind_12 : decode cX7_wind 12 = .ok (.ifCond .lt 8, 3) := dq_155 (b1 := 0) (b2 := 8) (by decide +kernel) (by decide)
theorem dX7_wind_15 : decode cX7_wind 15 = .ok (.iload_n 2, 1) := dq_28 (by decide +kernel)
theorem dX7_wind_16 : decode cX7_wind 16 = .ok (.iconst 4, 1) := dq_7 (by decide +kernel)
theorem dX7_wind_17 : decode cX7_wind 17 = .ok (.if_icmp .le 6, 3) := dq_164 (b1 := 0) (b2 := 6) (by decide +kernel) (by decide)
theorem dX7_wind_20 : decode cX7_wind 20 = .ok (.ldc 72, 2) := dq_18 (b1 := 72) (by decide +kernel) (by decide)
theorem dX7_wind_22 : decode cX7_wind 22 = .ok (.ireturn, 1) := dq_172 (by decide +kernel)
theorem dX7_wind_23 : decode cX7_wind 23 = .ok (.aload_n 0, 1) := dq_42 (by decide +kernel)
theorem dX7_wind_24 : decode cX7_wind 24 = .ok (.getfield 26, 3) := dq_180 (b1 := 0) (b2 := 26) (by decide +kernel) (by decide)
theorem dX7_wind_27 : decode cX7_wind 27 = .ok (.getfield 169, 3) := dq_180 (b1 := 0) (b2 := 169) (by decide +kernel) (by decide)
theorem dX7_wind_30 : decode cX7_wind 30 = .ok (.iload_n 1, 1) := dq_27 (by decide +kernel)
theorem dX7_wind_31 : decode cX7_wind 31 = .ok (.iaload, 1) := dq_46 (by decide +kernel)
theorem dX7_wind_32 : decode cX7_wind 32 = .ok (.istore_n 3, 1) := dq_62 (by decide +kernel)
theorem dX7_wind_33 : decode cX7_wind 33 = .ok (.aload_n 0, 1) := dq_42 (by decide +kernel)
theorem dX7_wind_34 : decode cX7_wind 34 = .ok (.getfield 33, 3) := dq_180 (b1 := 0) (b2 := 33) (by decide +kernel) (by decide)
theorem dX7_wind_37 : decode cX7_wind 37 = .ok (.aload_n 0, 1) := dq_42 (by decide +kernel)
theorem dX7_wind_38 : decode cX7_wind 38 = .ok (.getfield 26, 3) := dq_180 (b1 := 0) (b2 := 26) (by decide +kernel) (by decide)
theorem dX7_wind_4 : decode cX7_wind 4 = .ok (.iload_n 1, 1) := dq_27 (by decide +kernel)
theorem dX7_wind_41 : decode cX7_wind 41 = .ok (.invokevirtual 151, 3) := dq_182 (b1 := 0) (b2 := 151) (by decide +kernel) (by decide)
theorem dX7_wind_44 : decode cX7_wind 44 = .ok (.aload_n 0, 1) := dq_42 (by decide +kernel)
theorem dX7_wind_45 : decode cX7_wind 45 = .ok (.getfield 26, 3) := dq_180 (b1 := 0) (b2 := 26) (by decide +kernel) (by decide)
theorem dX7_wind_48 : decode cX7_wind 48 = .ok (.getfield 169, 3) := dq_180 (b1 := 0) (b2 := 169) (by decide +kernel) (by decide)
theorem dX7_wind_5 : decode cX7_wind 5 = .ok (.invokevirtual 166, 3) := dq_182 (b1 := 0) (b2 := 166) (by decide +kernel) (by decide)
theorem dX7_wind_51 : decode cX7_wind 51 = .ok (.iload_n 1, 1) := dq_27 (by decide +kernel)
theorem dX7_wind_52 : decode cX7_wind 52 = .ok (.iload_n 2, 1) := dq_28 (by decide +kernel)
theorem dX7_wind_53 : decode cX7_wind 53 = .ok (.iastore, 1) := dq_79 (by decide +kernel)
theorem dX7_wind_54 : decode cX7_wind 54 = .ok (.iload_n 3, 1) := dq_29 (by decide +kernel)
theorem dX7_wind_55 : decode cX7_wind 55 = .ok (.ireturn, 1) := dq_172 (by decide +kernel)
theorem dX7_wind_8 : decode cX7_wind 8 = .ok (.ifCond .eq 12, 3) := dq_153 (b1 := 0) (b2 := 12) (by decide +kernel) (by decide)
theorem mb_X7_cap_wsX7_cap_r1 {w : Cond} (h : w ∈ wsX7_cap_r1) : w ∈ wsX7_cap := by unfold wsX7_cap; exact List.mem_cons_of_mem _ (List.mem_append_left _ (List.mem_append_left _ (List.mem_append_left _ (List.mem_append_left _ (h)))))
theorem mx_X7_cap_15 : Cond.code yX0_keep cX0_keep 2 none ∈ wsX7_cap := mb_X7_cap_wsX7_cap_r1 (List.mem_of_getElem? (i := 14) rfl)
theorem mx_X7_cap_16 : Cond.fieldLink RX0 11 "MillTalk$Acts" "before" "[LMillTalk$Level;" ∈ wsX7_cap := mb_X7_cap_wsX7_cap_r1 (List.mem_of_getElem? (i := 15) rfl)
theorem mx_X7_cap_17 : Cond.fieldLink RX0 20 "MillTalk$Acts" "next" "I" ∈ wsX7_cap := mb_X7_cap_wsX7_cap_r1 (List.mem_of_getElem? (i := 16) rfl)
theorem mx_X7_cap_18 : Cond.fieldLink RX0 16 "MillTalk$Acts" "size" "I" ∈ wsX7_cap := mb_X7_cap_wsX7_cap_r1 (List.mem_of_getElem? (i := 17) rfl)
theorem mx_X7_cap_19 : Cond.methodLink RX0 27 Lib.Math.min.name ∈ wsX7_cap := mb_X7_cap_wsX7_cap_r1 (List.mem_of_getElem? (i := 18) rfl)
theorem mx_X7_cap_20 : Cond.static Lib.Math.min.name ∈ wsX7_cap := mb_X7_cap_wsX7_cap_r1 (List.mem_of_getElem? (i := 19) rfl)
theorem mx_X7_cap_21 : Cond.initialized "java/lang/Math" ∈ wsX7_cap := mb_X7_cap_wsX7_cap_r1 (List.mem_of_getElem? (i := 20) rfl)
theorem mx_X7_cap_22 : Cond.code Lib.Math.min.name Lib.Math.min.code 2 (some .int) ∈ wsX7_cap := mb_X7_cap_wsX7_cap_r1 (List.mem_of_getElem? (i := 21) rfl)
theorem mx_X7_cap_23 : Cond.methodLink RX0 23 yX3_becomeLike ∈ wsX7_cap := mb_X7_cap_wsX7_cap_r1 (List.mem_of_getElem? (i := 22) rfl)
theorem mx_X7_cap_24 : Cond.instanceMethod yX3_becomeLike ∈ wsX7_cap := mb_X7_cap_wsX7_cap_r1 (List.mem_of_getElem? (i := 23) rfl)
theorem mb_X7_cap_wsX7_cap_r2 {w : Cond} (h : w ∈ wsX7_cap_r2) : w ∈ wsX7_cap := by unfold wsX7_cap; exact List.mem_cons_of_mem _ (List.mem_append_left _ (List.mem_append_left _ (List.mem_append_left _ (List.mem_append_right _ (h)))))
theorem mx_X7_cap_25 : Cond.selects RX3 yX3_becomeLike yX3_becomeLike ∈ wsX7_cap := mb_X7_cap_wsX7_cap_r2 (List.mem_of_getElem? (i := 0) rfl)
theorem mx_X7_cap_8 : Cond.initialized RX3 ∈ wsX7_cap := mb_X7_cap_wsX7_cap_r1 (List.mem_of_getElem? (i := 7) rfl)
theorem mx_X7_cap_26 : Cond.code yX3_becomeLike cX3_becomeLike 2 none ∈ wsX7_cap := mb_X7_cap_wsX7_cap_r2 (List.mem_of_getElem? (i := 1) rfl)
theorem mx_X7_cap_10 : Cond.fieldLink RX3 27 "MillTalk$Level" "cells" "I" ∈ wsX7_cap := mb_X7_cap_wsX7_cap_r1 (List.mem_of_getElem? (i := 9) rfl)
theorem mx_X7_cap_27 : Cond.fieldLink RX3 31 "MillTalk$Level" "mill" "I" ∈ wsX7_cap := mb_X7_cap_wsX7_cap_r2 (List.mem_of_getElem? (i := 2) rfl)
theorem mx_X7_cap_28 : Cond.fieldLink RX3 34 "MillTalk$Level" "reach" "I" ∈ wsX7_cap := mb_X7_cap_wsX7_cap_r2 (List.mem_of_getElem? (i := 3) rfl)
theorem mx_X7_cap_29 : Cond.fieldLink RX3 37 "MillTalk$Level" "cap" "I" ∈ wsX7_cap := mb_X7_cap_wsX7_cap_r2 (List.mem_of_getElem? (i := 4) rfl)
theorem mx_X7_cap_30 : Cond.fieldLink RX3 40 "MillTalk$Level" "hour" "I" ∈ wsX7_cap := mb_X7_cap_wsX7_cap_r2 (List.mem_of_getElem? (i := 5) rfl)
theorem mx_X7_cap_31 : Cond.fieldLink RX3 43 "MillTalk$Level" "meal" "I" ∈ wsX7_cap := mb_X7_cap_wsX7_cap_r2 (List.mem_of_getElem? (i := 6) rfl)
theorem mx_X7_cap_32 : Cond.fieldLink RX3 46 "MillTalk$Level" "windCount" "I" ∈ wsX7_cap := mb_X7_cap_wsX7_cap_r2 (List.mem_of_getElem? (i := 7) rfl)
theorem mx_X7_cap_33 : Cond.fieldLink RX3 49 "MillTalk$Level" "soundCount" "I" ∈ wsX7_cap := mb_X7_cap_wsX7_cap_r2 (List.mem_of_getElem? (i := 8) rfl)
theorem mx_X7_cap_34 : Cond.fieldLink RX3 9 "MillTalk$Level" "winds" "[I" ∈ wsX7_cap := mb_X7_cap_wsX7_cap_r2 (List.mem_of_getElem? (i := 9) rfl)
theorem mx_X7_cap_35 : Cond.methodLink RX3 52 arraycopyName ∈ wsX7_cap := mb_X7_cap_wsX7_cap_r2 (List.mem_of_getElem? (i := 10) rfl)
theorem mx_X7_cap_36 : Cond.native arraycopyName ∈ wsX7_cap := mb_X7_cap_wsX7_cap_r2 (List.mem_of_getElem? (i := 11) rfl)
theorem mx_X7_cap_37 : Cond.static arraycopyName ∈ wsX7_cap := mb_X7_cap_wsX7_cap_r2 (List.mem_of_getElem? (i := 12) rfl)
theorem mx_X7_cap_38 : Cond.initialized "java/lang/System" ∈ wsX7_cap := mb_X7_cap_wsX7_cap_r2 (List.mem_of_getElem? (i := 13) rfl)
theorem mx_X7_cap_39 : Cond.fieldLink RX3 15 "MillTalk$Level" "kinds" "[I" ∈ wsX7_cap := mb_X7_cap_wsX7_cap_r2 (List.mem_of_getElem? (i := 14) rfl)
theorem mx_X7_cap_40 : Cond.fieldLink RX3 18 "MillTalk$Level" "places" "[I" ∈ wsX7_cap := mb_X7_cap_wsX7_cap_r2 (List.mem_of_getElem? (i := 15) rfl)
theorem mx_X7_cap_41 : Cond.fieldLink RX3 21 "MillTalk$Level" "louds" "[I" ∈ wsX7_cap := mb_X7_cap_wsX7_cap_r2 (List.mem_of_getElem? (i := 16) rfl)
theorem mx_X7_cap_42 : Cond.fieldLink RX3 24 "MillTalk$Level" "hows" "[I" ∈ wsX7_cap := mb_X7_cap_wsX7_cap_r2 (List.mem_of_getElem? (i := 17) rfl)
theorem mb_X7_cap_wsX00 {w : Cond} (h : w ∈ wsX00) : w ∈ wsX7_cap := by unfold wsX7_cap; exact List.mem_cons_of_mem _ (List.mem_append_right _ (h))
theorem mb_X7_cap_wsX30 {w : Cond} (h : w ∈ wsX30) : w ∈ wsX7_cap := by unfold wsX7_cap; exact List.mem_cons_of_mem _ (List.mem_append_left _ (List.mem_append_right _ (h)))
theorem ggX7_cap_X0_keep : GoodIn wsX7_cap wsX0_keep := goodIn_sub (by unfold wsX0_keep; exact List.forall_mem_cons.mpr ⟨mx_X7_cap_15, List.forall_mem_append.mpr ⟨List.forall_mem_append.mpr ⟨List.forall_mem_append.mpr ⟨(by unfold wsX0_keep_r1; exact List.forall_mem_cons.mpr ⟨mx_X7_cap_16, List.forall_mem_cons.mpr ⟨mx_X7_cap_17, List.forall_mem_cons.mpr ⟨mx_X7_cap_18, List.forall_mem_cons.mpr ⟨mx_X7_cap_19, List.forall_mem_cons.mpr ⟨mx_X7_cap_20, List.forall_mem_cons.mpr ⟨mx_X7_cap_21, List.forall_mem_cons.mpr ⟨mx_X7_cap_22, List.forall_mem_cons.mpr ⟨mx_X7_cap_23, List.forall_mem_cons.mpr ⟨mx_X7_cap_24, List.forall_mem_cons.mpr ⟨mx_X7_cap_25, List.forall_mem_cons.mpr ⟨mx_X7_cap_8, List.forall_mem_cons.mpr ⟨mx_X7_cap_26, List.forall_mem_cons.mpr ⟨mx_X7_cap_10, List.forall_mem_cons.mpr ⟨mx_X7_cap_27, List.forall_mem_cons.mpr ⟨mx_X7_cap_28, List.forall_mem_cons.mpr ⟨mx_X7_cap_29, List.forall_mem_cons.mpr ⟨mx_X7_cap_30, List.forall_mem_cons.mpr ⟨mx_X7_cap_31, List.forall_mem_cons.mpr ⟨mx_X7_cap_32, List.forall_mem_cons.mpr ⟨mx_X7_cap_33, List.forall_mem_cons.mpr ⟨mx_X7_cap_34, List.forall_mem_cons.mpr ⟨mx_X7_cap_35, List.forall_mem_cons.mpr ⟨mx_X7_cap_36, List.forall_mem_cons.mpr ⟨mx_X7_cap_37, fun _ h_ => absurd h_ List.not_mem_nil⟩⟩⟩⟩⟩⟩⟩⟩⟩⟩⟩⟩⟩⟩⟩⟩⟩⟩⟩⟩⟩⟩⟩⟩), (by unfold wsX0_keep_r2; exact List.forall_mem_cons.mpr ⟨mx_X7_cap_38, List.forall_mem_cons.mpr ⟨mx_X7_cap_39, List.forall_mem_cons.mpr ⟨mx_X7_cap_40, List.forall_mem_cons.mpr ⟨mx_X7_cap_41, List.forall_mem_cons.mpr ⟨mx_X7_cap_42, fun _ h_ => absurd h_ List.not_mem_nil⟩⟩⟩⟩⟩)⟩, (fun _ h_ => mb_X7_cap_wsX00 h_)⟩, (fun _ h_ => mb_X7_cap_wsX30 h_)⟩⟩) (by decide +kernel)
theorem mx_X7_cap_11 : Cond.methodLink RX7 151 yX0_keep ∈ wsX7_cap := mb_X7_cap_wsX7_cap_r1 (List.mem_of_getElem? (i := 10) rfl)
theorem mx_X7_cap_12 : Cond.instanceMethod yX0_keep ∈ wsX7_cap := mb_X7_cap_wsX7_cap_r1 (List.mem_of_getElem? (i := 11) rfl)
theorem mx_X7_cap_13 : Cond.selects RX0 yX0_keep yX0_keep ∈ wsX7_cap := mb_X7_cap_wsX7_cap_r1 (List.mem_of_getElem? (i := 12) rfl)
theorem mx_X7_cap_14 : Cond.initialized RX0 ∈ wsX7_cap := mb_X7_cap_wsX7_cap_r1 (List.mem_of_getElem? (i := 13) rfl)
theorem gX7_cap_X0_keep : GoodIn wsX7_cap (wsV RX7 151 RX0 yX0_keep wsX0_keep) := goodIn_app (goodIn_sub (List.forall_mem_cons.mpr ⟨mx_X7_cap_11, List.forall_mem_cons.mpr ⟨mx_X7_cap_12, List.forall_mem_cons.mpr ⟨mx_X7_cap_13, List.forall_mem_cons.mpr ⟨mx_X7_cap_14, fun _ h_ => absurd h_ List.not_mem_nil⟩⟩⟩⟩) (by decide +kernel)) ggX7_cap_X0_keep
theorem mx_X7_cap_9 : Cond.code yX3_isTold cX3_isTold 1 (some .boolean) ∈ wsX7_cap := mb_X7_cap_wsX7_cap_r1 (List.mem_of_getElem? (i := 8) rfl)
theorem ggX7_cap_X3_isTold : GoodIn wsX7_cap wsX3_isTold := goodIn_sub (by unfold wsX3_isTold; exact List.forall_mem_cons.mpr ⟨mx_X7_cap_9, List.forall_mem_append.mpr ⟨List.forall_mem_cons.mpr ⟨mx_X7_cap_10, fun _ h_ => absurd h_ List.not_mem_nil⟩, (fun _ h_ => mb_X7_cap_wsX30 h_)⟩⟩) (by decide +kernel)
theorem mx_X7_cap_5 : Cond.methodLink RX7 145 yX3_isTold ∈ wsX7_cap := mb_X7_cap_wsX7_cap_r1 (List.mem_of_getElem? (i := 4) rfl)
theorem mx_X7_cap_6 : Cond.instanceMethod yX3_isTold ∈ wsX7_cap := mb_X7_cap_wsX7_cap_r1 (List.mem_of_getElem? (i := 5) rfl)
theorem mx_X7_cap_7 : Cond.selects RX3 yX3_isTold yX3_isTold ∈ wsX7_cap := mb_X7_cap_wsX7_cap_r1 (List.mem_of_getElem? (i := 6) rfl)
theorem gX7_cap_X3_isTold : GoodIn wsX7_cap (wsV RX7 145 RX3 yX3_isTold wsX3_isTold) := goodIn_app (goodIn_sub (List.forall_mem_cons.mpr ⟨mx_X7_cap_5, List.forall_mem_cons.mpr ⟨mx_X7_cap_6, List.forall_mem_cons.mpr ⟨mx_X7_cap_7, List.forall_mem_cons.mpr ⟨mx_X7_cap_8, fun _ h_ => absurd h_ List.not_mem_nil⟩⟩⟩⟩) (by decide +kernel)) ggX7_cap_X3_isTold
theorem mx_X7_cap_46 : Cond.code yX3_turnCap cX3_turnCap 1 none ∈ wsX7_cap := mb_X7_cap_wsX7_cap_r2 (List.mem_of_getElem? (i := 21) rfl)
theorem ggX7_cap_X3_turnCap : GoodIn wsX7_cap wsX3_turnCap := goodIn_sub (by unfold wsX3_turnCap; exact List.forall_mem_cons.mpr ⟨mx_X7_cap_46, List.forall_mem_append.mpr ⟨List.forall_mem_cons.mpr ⟨mx_X7_cap_29, fun _ h_ => absurd h_ List.not_mem_nil⟩, (fun _ h_ => mb_X7_cap_wsX30 h_)⟩⟩) (by decide +kernel)
theorem mx_X7_cap_43 : Cond.methodLink RX7 160 yX3_turnCap ∈ wsX7_cap := mb_X7_cap_wsX7_cap_r2 (List.mem_of_getElem? (i := 18) rfl)
theorem mx_X7_cap_44 : Cond.instanceMethod yX3_turnCap ∈ wsX7_cap := mb_X7_cap_wsX7_cap_r2 (List.mem_of_getElem? (i := 19) rfl)
theorem mx_X7_cap_45 : Cond.selects RX3 yX3_turnCap yX3_turnCap ∈ wsX7_cap := mb_X7_cap_wsX7_cap_r2 (List.mem_of_getElem? (i := 20) rfl)
theorem gX7_cap_X3_turnCap : GoodIn wsX7_cap (wsV RX7 160 RX3 yX3_turnCap wsX3_turnCap) := goodIn_app (goodIn_sub (List.forall_mem_cons.mpr ⟨mx_X7_cap_43, List.forall_mem_cons.mpr ⟨mx_X7_cap_44, List.forall_mem_cons.mpr ⟨mx_X7_cap_45, List.forall_mem_cons.mpr ⟨mx_X7_cap_8, fun _ h_ => absurd h_ List.not_mem_nil⟩⟩⟩⟩) (by decide +kernel)) ggX7_cap_X3_turnCap
theorem mb_X7_wind_wsX7_wind_r1 {w : Cond} (h : w ∈ wsX7_wind_r1) : w ∈ wsX7_wind := by unfold wsX7_wind; exact List.mem_cons_of_mem _ (List.mem_append_left _ (List.mem_append_left _ (List.mem_append_left _ (List.mem_append_left _ (h)))))
theorem mx_X7_wind_15 : Cond.code yX0_keep cX0_keep 2 none ∈ wsX7_wind := mb_X7_wind_wsX7_wind_r1 (List.mem_of_getElem? (i := 14) rfl)
theorem mx_X7_wind_16 : Cond.fieldLink RX0 11 "MillTalk$Acts" "before" "[LMillTalk$Level;" ∈ wsX7_wind := mb_X7_wind_wsX7_wind_r1 (List.mem_of_getElem? (i := 15) rfl)
theorem mx_X7_wind_17 : Cond.fieldLink RX0 20 "MillTalk$Acts" "next" "I" ∈ wsX7_wind := mb_X7_wind_wsX7_wind_r1 (List.mem_of_getElem? (i := 16) rfl)
theorem mx_X7_wind_18 : Cond.fieldLink RX0 16 "MillTalk$Acts" "size" "I" ∈ wsX7_wind := mb_X7_wind_wsX7_wind_r1 (List.mem_of_getElem? (i := 17) rfl)
theorem mx_X7_wind_19 : Cond.methodLink RX0 27 Lib.Math.min.name ∈ wsX7_wind := mb_X7_wind_wsX7_wind_r1 (List.mem_of_getElem? (i := 18) rfl)
theorem mx_X7_wind_20 : Cond.static Lib.Math.min.name ∈ wsX7_wind := mb_X7_wind_wsX7_wind_r1 (List.mem_of_getElem? (i := 19) rfl)
theorem mx_X7_wind_21 : Cond.initialized "java/lang/Math" ∈ wsX7_wind := mb_X7_wind_wsX7_wind_r1 (List.mem_of_getElem? (i := 20) rfl)
theorem mx_X7_wind_22 : Cond.code Lib.Math.min.name Lib.Math.min.code 2 (some .int) ∈ wsX7_wind := mb_X7_wind_wsX7_wind_r1 (List.mem_of_getElem? (i := 21) rfl)
theorem mx_X7_wind_23 : Cond.methodLink RX0 23 yX3_becomeLike ∈ wsX7_wind := mb_X7_wind_wsX7_wind_r1 (List.mem_of_getElem? (i := 22) rfl)
theorem mx_X7_wind_24 : Cond.instanceMethod yX3_becomeLike ∈ wsX7_wind := mb_X7_wind_wsX7_wind_r1 (List.mem_of_getElem? (i := 23) rfl)
theorem mb_X7_wind_wsX7_wind_r2 {w : Cond} (h : w ∈ wsX7_wind_r2) : w ∈ wsX7_wind := by unfold wsX7_wind; exact List.mem_cons_of_mem _ (List.mem_append_left _ (List.mem_append_left _ (List.mem_append_left _ (List.mem_append_right _ (h)))))
theorem mx_X7_wind_25 : Cond.selects RX3 yX3_becomeLike yX3_becomeLike ∈ wsX7_wind := mb_X7_wind_wsX7_wind_r2 (List.mem_of_getElem? (i := 0) rfl)
theorem mx_X7_wind_8 : Cond.initialized RX3 ∈ wsX7_wind := mb_X7_wind_wsX7_wind_r1 (List.mem_of_getElem? (i := 7) rfl)
theorem mx_X7_wind_26 : Cond.code yX3_becomeLike cX3_becomeLike 2 none ∈ wsX7_wind := mb_X7_wind_wsX7_wind_r2 (List.mem_of_getElem? (i := 1) rfl)
theorem mx_X7_wind_27 : Cond.fieldLink RX3 27 "MillTalk$Level" "cells" "I" ∈ wsX7_wind := mb_X7_wind_wsX7_wind_r2 (List.mem_of_getElem? (i := 2) rfl)
theorem mx_X7_wind_28 : Cond.fieldLink RX3 31 "MillTalk$Level" "mill" "I" ∈ wsX7_wind := mb_X7_wind_wsX7_wind_r2 (List.mem_of_getElem? (i := 3) rfl)
theorem mx_X7_wind_29 : Cond.fieldLink RX3 34 "MillTalk$Level" "reach" "I" ∈ wsX7_wind := mb_X7_wind_wsX7_wind_r2 (List.mem_of_getElem? (i := 4) rfl)
theorem mx_X7_wind_30 : Cond.fieldLink RX3 37 "MillTalk$Level" "cap" "I" ∈ wsX7_wind := mb_X7_wind_wsX7_wind_r2 (List.mem_of_getElem? (i := 5) rfl)
theorem mx_X7_wind_31 : Cond.fieldLink RX3 40 "MillTalk$Level" "hour" "I" ∈ wsX7_wind := mb_X7_wind_wsX7_wind_r2 (List.mem_of_getElem? (i := 6) rfl)
theorem mx_X7_wind_32 : Cond.fieldLink RX3 43 "MillTalk$Level" "meal" "I" ∈ wsX7_wind := mb_X7_wind_wsX7_wind_r2 (List.mem_of_getElem? (i := 7) rfl)
theorem mx_X7_wind_10 : Cond.fieldLink RX3 46 "MillTalk$Level" "windCount" "I" ∈ wsX7_wind := mb_X7_wind_wsX7_wind_r1 (List.mem_of_getElem? (i := 9) rfl)
theorem mx_X7_wind_33 : Cond.fieldLink RX3 49 "MillTalk$Level" "soundCount" "I" ∈ wsX7_wind := mb_X7_wind_wsX7_wind_r2 (List.mem_of_getElem? (i := 8) rfl)
theorem mx_X7_wind_34 : Cond.fieldLink RX3 9 "MillTalk$Level" "winds" "[I" ∈ wsX7_wind := mb_X7_wind_wsX7_wind_r2 (List.mem_of_getElem? (i := 9) rfl)
theorem mx_X7_wind_35 : Cond.methodLink RX3 52 arraycopyName ∈ wsX7_wind := mb_X7_wind_wsX7_wind_r2 (List.mem_of_getElem? (i := 10) rfl)
theorem mx_X7_wind_36 : Cond.native arraycopyName ∈ wsX7_wind := mb_X7_wind_wsX7_wind_r2 (List.mem_of_getElem? (i := 11) rfl)
theorem mx_X7_wind_37 : Cond.static arraycopyName ∈ wsX7_wind := mb_X7_wind_wsX7_wind_r2 (List.mem_of_getElem? (i := 12) rfl)
theorem mx_X7_wind_38 : Cond.initialized "java/lang/System" ∈ wsX7_wind := mb_X7_wind_wsX7_wind_r2 (List.mem_of_getElem? (i := 13) rfl)
theorem mx_X7_wind_39 : Cond.fieldLink RX3 15 "MillTalk$Level" "kinds" "[I" ∈ wsX7_wind := mb_X7_wind_wsX7_wind_r2 (List.mem_of_getElem? (i := 14) rfl)
theorem mx_X7_wind_40 : Cond.fieldLink RX3 18 "MillTalk$Level" "places" "[I" ∈ wsX7_wind := mb_X7_wind_wsX7_wind_r2 (List.mem_of_getElem? (i := 15) rfl)
theorem mx_X7_wind_41 : Cond.fieldLink RX3 21 "MillTalk$Level" "louds" "[I" ∈ wsX7_wind := mb_X7_wind_wsX7_wind_r2 (List.mem_of_getElem? (i := 16) rfl)
theorem mx_X7_wind_42 : Cond.fieldLink RX3 24 "MillTalk$Level" "hows" "[I" ∈ wsX7_wind := mb_X7_wind_wsX7_wind_r2 (List.mem_of_getElem? (i := 17) rfl)
theorem mb_X7_wind_wsX00 {w : Cond} (h : w ∈ wsX00) : w ∈ wsX7_wind := by unfold wsX7_wind; exact List.mem_cons_of_mem _ (List.mem_append_right _ (h))
theorem mb_X7_wind_wsX30 {w : Cond} (h : w ∈ wsX30) : w ∈ wsX7_wind := by unfold wsX7_wind; exact List.mem_cons_of_mem _ (List.mem_append_left _ (List.mem_append_right _ (h)))
theorem ggX7_wind_X0_keep : GoodIn wsX7_wind wsX0_keep := goodIn_sub (by unfold wsX0_keep; exact List.forall_mem_cons.mpr ⟨mx_X7_wind_15, List.forall_mem_append.mpr ⟨List.forall_mem_append.mpr ⟨List.forall_mem_append.mpr ⟨(by unfold wsX0_keep_r1; exact List.forall_mem_cons.mpr ⟨mx_X7_wind_16, List.forall_mem_cons.mpr ⟨mx_X7_wind_17, List.forall_mem_cons.mpr ⟨mx_X7_wind_18, List.forall_mem_cons.mpr ⟨mx_X7_wind_19, List.forall_mem_cons.mpr ⟨mx_X7_wind_20, List.forall_mem_cons.mpr ⟨mx_X7_wind_21, List.forall_mem_cons.mpr ⟨mx_X7_wind_22, List.forall_mem_cons.mpr ⟨mx_X7_wind_23, List.forall_mem_cons.mpr ⟨mx_X7_wind_24, List.forall_mem_cons.mpr ⟨mx_X7_wind_25, List.forall_mem_cons.mpr ⟨mx_X7_wind_8, List.forall_mem_cons.mpr ⟨mx_X7_wind_26, List.forall_mem_cons.mpr ⟨mx_X7_wind_27, List.forall_mem_cons.mpr ⟨mx_X7_wind_28, List.forall_mem_cons.mpr ⟨mx_X7_wind_29, List.forall_mem_cons.mpr ⟨mx_X7_wind_30, List.forall_mem_cons.mpr ⟨mx_X7_wind_31, List.forall_mem_cons.mpr ⟨mx_X7_wind_32, List.forall_mem_cons.mpr ⟨mx_X7_wind_10, List.forall_mem_cons.mpr ⟨mx_X7_wind_33, List.forall_mem_cons.mpr ⟨mx_X7_wind_34, List.forall_mem_cons.mpr ⟨mx_X7_wind_35, List.forall_mem_cons.mpr ⟨mx_X7_wind_36, List.forall_mem_cons.mpr ⟨mx_X7_wind_37, fun _ h_ => absurd h_ List.not_mem_nil⟩⟩⟩⟩⟩⟩⟩⟩⟩⟩⟩⟩⟩⟩⟩⟩⟩⟩⟩⟩⟩⟩⟩⟩), (by unfold wsX0_keep_r2; exact List.forall_mem_cons.mpr ⟨mx_X7_wind_38, List.forall_mem_cons.mpr ⟨mx_X7_wind_39, List.forall_mem_cons.mpr ⟨mx_X7_wind_40, List.forall_mem_cons.mpr ⟨mx_X7_wind_41, List.forall_mem_cons.mpr ⟨mx_X7_wind_42, fun _ h_ => absurd h_ List.not_mem_nil⟩⟩⟩⟩⟩)⟩, (fun _ h_ => mb_X7_wind_wsX00 h_)⟩, (fun _ h_ => mb_X7_wind_wsX30 h_)⟩⟩) (by decide +kernel)
theorem mx_X7_wind_11 : Cond.methodLink RX7 151 yX0_keep ∈ wsX7_wind := mb_X7_wind_wsX7_wind_r1 (List.mem_of_getElem? (i := 10) rfl)
theorem mx_X7_wind_12 : Cond.instanceMethod yX0_keep ∈ wsX7_wind := mb_X7_wind_wsX7_wind_r1 (List.mem_of_getElem? (i := 11) rfl)
theorem mx_X7_wind_13 : Cond.selects RX0 yX0_keep yX0_keep ∈ wsX7_wind := mb_X7_wind_wsX7_wind_r1 (List.mem_of_getElem? (i := 12) rfl)
theorem mx_X7_wind_14 : Cond.initialized RX0 ∈ wsX7_wind := mb_X7_wind_wsX7_wind_r1 (List.mem_of_getElem? (i := 13) rfl)
theorem gX7_wind_X0_keep : GoodIn wsX7_wind (wsV RX7 151 RX0 yX0_keep wsX0_keep) := goodIn_app (goodIn_sub (List.forall_mem_cons.mpr ⟨mx_X7_wind_11, List.forall_mem_cons.mpr ⟨mx_X7_wind_12, List.forall_mem_cons.mpr ⟨mx_X7_wind_13, List.forall_mem_cons.mpr ⟨mx_X7_wind_14, fun _ h_ => absurd h_ List.not_mem_nil⟩⟩⟩⟩) (by decide +kernel)) ggX7_wind_X0_keep
theorem mx_X7_wind_9 : Cond.code yX3_hasWind cX3_hasWind 2 (some .boolean) ∈ wsX7_wind := mb_X7_wind_wsX7_wind_r1 (List.mem_of_getElem? (i := 8) rfl)
theorem ggX7_wind_X3_hasWind : GoodIn wsX7_wind wsX3_hasWind := goodIn_sub (by unfold wsX3_hasWind; exact List.forall_mem_cons.mpr ⟨mx_X7_wind_9, List.forall_mem_append.mpr ⟨List.forall_mem_cons.mpr ⟨mx_X7_wind_10, fun _ h_ => absurd h_ List.not_mem_nil⟩, (fun _ h_ => mb_X7_wind_wsX30 h_)⟩⟩) (by decide +kernel)
theorem mx_X7_wind_5 : Cond.methodLink RX7 166 yX3_hasWind ∈ wsX7_wind := mb_X7_wind_wsX7_wind_r1 (List.mem_of_getElem? (i := 4) rfl)
theorem mx_X7_wind_6 : Cond.instanceMethod yX3_hasWind ∈ wsX7_wind := mb_X7_wind_wsX7_wind_r1 (List.mem_of_getElem? (i := 5) rfl)
theorem mx_X7_wind_7 : Cond.selects RX3 yX3_hasWind yX3_hasWind ∈ wsX7_wind := mb_X7_wind_wsX7_wind_r1 (List.mem_of_getElem? (i := 6) rfl)
theorem gX7_wind_X3_hasWind : GoodIn wsX7_wind (wsV RX7 166 RX3 yX3_hasWind wsX3_hasWind) := goodIn_app (goodIn_sub (List.forall_mem_cons.mpr ⟨mx_X7_wind_5, List.forall_mem_cons.mpr ⟨mx_X7_wind_6, List.forall_mem_cons.mpr ⟨mx_X7_wind_7, List.forall_mem_cons.mpr ⟨mx_X7_wind_8, fun _ h_ => absurd h_ List.not_mem_nil⟩⟩⟩⟩) (by decide +kernel)) ggX7_wind_X3_hasWind
theorem i_X7_cap_X3 : ∀ w ∈ u_ws RX3 TX3 13, w ∈ wsX7_cap := fun _ h_ => mb_X7_cap_wsX30 h_
theorem mb_X7_cap_wsX70 {w : Cond} (h : w ∈ wsX70) : w ∈ wsX7_cap := by unfold wsX7_cap; exact List.mem_cons_of_mem _ (List.mem_append_left _ (List.mem_append_left _ (List.mem_append_right _ (h))))
theorem i_X7_cap_X7 : ∀ w ∈ u_ws RX7 TX7 11, w ∈ wsX7_cap := fun _ h_ => mb_X7_cap_wsX70 h_
theorem i_X7_wind_X3 : ∀ w ∈ u_ws RX3 TX3 13, w ∈ wsX7_wind := fun _ h_ => mb_X7_wind_wsX30 h_
theorem mb_X7_wind_wsX70 {w : Cond} (h : w ∈ wsX70) : w ∈ wsX7_wind := by unfold wsX7_wind; exact List.mem_cons_of_mem _ (List.mem_append_left _ (List.mem_append_left _ (List.mem_append_right _ (h))))
theorem i_X7_wind_X7 : ∀ w ∈ u_ws RX7 TX7 11, w ∈ wsX7_wind := fun _ h_ => mb_X7_wind_wsX70 h_
theorem mx_X7_cap_1 : Cond.fieldLink RX7 26 "MillTalk" "now" "LMillTalk$Level;" ∈ wsX7_cap := mb_X7_cap_wsX7_cap_r1 (List.mem_of_getElem? (i := 0) rfl)
theorem mx_X7_cap_2 : Cond.constant RX7 141 (-1000002) ∈ wsX7_cap := mb_X7_cap_wsX7_cap_r1 (List.mem_of_getElem? (i := 1) rfl)
theorem mx_X7_cap_3 : Cond.fieldLink RX7 33 "MillTalk" "acts" "LMillTalk$Acts;" ∈ wsX7_cap := mb_X7_cap_wsX7_cap_r1 (List.mem_of_getElem? (i := 2) rfl)
theorem mx_X7_cap_4 : Cond.fieldLink RX7 163 "MillTalk$Level" "cap" "I" ∈ wsX7_cap := mb_X7_cap_wsX7_cap_r1 (List.mem_of_getElem? (i := 3) rfl)
theorem mx_X7_wind_1 : Cond.fieldLink RX7 26 "MillTalk" "now" "LMillTalk$Level;" ∈ wsX7_wind := mb_X7_wind_wsX7_wind_r1 (List.mem_of_getElem? (i := 0) rfl)
theorem mx_X7_wind_2 : Cond.constant RX7 72 (-1000001) ∈ wsX7_wind := mb_X7_wind_wsX7_wind_r1 (List.mem_of_getElem? (i := 1) rfl)
theorem mx_X7_wind_3 : Cond.fieldLink RX7 169 "MillTalk$Level" "winds" "[I" ∈ wsX7_wind := mb_X7_wind_wsX7_wind_r1 (List.mem_of_getElem? (i := 2) rfl)
theorem mx_X7_wind_4 : Cond.fieldLink RX7 33 "MillTalk" "acts" "LMillTalk$Acts;" ∈ wsX7_wind := mb_X7_wind_wsX7_wind_r1 (List.mem_of_getElem? (i := 3) rfl)
