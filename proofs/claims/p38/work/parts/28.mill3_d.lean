/-! ends of an act's path, on the class: each conclusion by its own lemma -/
theorem kz_n {g : Prop} [Decidable g] {n : Nat} (h : ¬ g) : n = kpN g n := (if_neg h).symm
theorem kc_n {g : Prop} [Decidable g] {r : RF} {n : Nat} {a : AC} (h : ¬ g) : a = kpA g r n a := (if_neg h).symm
theorem kz_p {g : Prop} [Decidable g] {n z : Nat} (h : g) (e : z = ntN n) : z = kpN g n := e.trans (if_pos h).symm
theorem kc_p {g : Prop} [Decidable g] {r : RF} {q az qn zn : Nat} {V Vn : Nat → Nat → Int32} {G Gn : Nat → Nat → RF} (h : g) (hq : q < 24) (haz : az ≤ 24) (e3 : nrV (Vn q) (Gn q) = r) (e4 : ∀ i : Nat, i < 24 → i ≠ q → nrV (Vn i) (Gn i) = nrV (V i) (G i)) (e5 : qn = (q + 1) % 24) (e6 : zn = ntN az) : acX qn zn Vn Gn = kpA g r az (acX q az V G) := by
  rw [e5, e6]
  exact (acX_keep hq haz e3 e4).trans (if_pos h).symm
theorem wi_l {r : RF} {a b : Int32} (h : ¬ gd_wind r a b) : r = n_wind r a b := (if_neg h).symm
theorem wi_a {r : RF} {a b : Int32} (h : ¬ gd_wind r a b) : (-1000001 : Int32) = a_wind r a b := (if_neg h).symm
theorem cp_l {r : RF} (h : ¬ gd_cap r) : r = n_cap r := (if_neg h).symm
theorem cp_a {r : RF} (h : ¬ gd_cap r) : (-1000002 : Int32) = a_cap r := (if_neg h).symm
theorem lo_ng {r : RF} {a b c : Int32} (h : ¬ ok_loose r a b c) : ¬ gd_loose r a b c := fun q => h q.1
theorem lo_l {r : RF} {a b c : Int32} (h : ¬ gd_loose r a b c) : r = n_loose r a b c := (if_neg h).symm
theorem lo_a {r : RF} {a b c : Int32} (h : ¬ ok_loose r a b c) : (-1000001 : Int32) = a_loose r a b c := (if_pos h).symm
theorem se_l {r : RF} {n : Int32} (h : ¬ gd_sell r n) : r = n_sell r n := (if_neg h).symm
theorem se_g0 {r : RF} {n : Int32} (h : r 0 = 0) : ¬ gd_sell r n := fun q => q.1 h
theorem se_g1 {r : RF} {n : Int32} (h : n < 1) : ¬ gd_sell r n := fun q => q.2.1 (Or.inl h)
theorem se_g2 {r : RF} {n : Int32} (h : ¬ n ≤ 999) : ¬ gd_sell r n := fun q => q.2.1 (Or.inr (i_nle.mp h))
theorem se_a0 {r : RF} {n : Int32} (h : r 0 = 0) : (-1000002 : Int32) = a_sell r n := (if_pos h).symm
theorem se_a1 {r : RF} {n : Int32} (h : ¬ r 0 = 0) (q : n < 1 ∨ 999 < n) : (-1000001 : Int32) = a_sell r n := by
  unfold a_sell
  rw [if_neg h, if_pos q]
theorem hx_l {r : RF} {An : Nat} {Ac : AC} {n : Int32} (gg : ¬ gd_hrs r n) : r = (s_hrs r An Ac n).1 := by
  unfold s_hrs
  rw [if_neg gg]
theorem hx_z {r : RF} {An : Nat} {Ac : AC} {n : Int32} (gg : ¬ gd_hrs r n) : An = (s_hrs r An Ac n).2.1 := by
  unfold s_hrs
  rw [if_neg gg]
theorem hx_c {r : RF} {An : Nat} {Ac : AC} {n : Int32} (gg : ¬ gd_hrs r n) : Ac = (s_hrs r An Ac n).2.2 := by
  unfold s_hrs
  rw [if_neg gg]
theorem hx_g0 {r : RF} {n : Int32} (h : r 0 = 0) : ¬ gd_hrs r n := fun q => q.1 h
theorem hx_g1 {r : RF} {n : Int32} (h : n < 1) : ¬ gd_hrs r n := fun q => q.2.1 (Or.inl h)
theorem hx_g2 {r : RF} {n : Int32} (h : ¬ n ≤ 24) : ¬ gd_hrs r n := fun q => q.2.1 (Or.inr (i_nle.mp h))
theorem hx_a0 {r : RF} {n : Int32} (h : r 0 = 0) : (-1000002 : Int32) = a_hrs r n := (if_pos h).symm
theorem hx_a1 {r : RF} {n : Int32} (h : ¬ r 0 = 0) (q : n < 1 ∨ 24 < n) : (-1000001 : Int32) = a_hrs r n := by
  unfold a_hrs
  rw [if_neg h, if_pos q]
theorem un_l {r : RF} {az : Nat} {a : AC} (h : az = 0) : r = n_undo r az a := (if_pos h).symm
theorem un_a {az : Nat} (h : az = 0) : (-1000002 : Int32) = a_undo az := (if_pos h).symm
theorem un_c {q az : Nat} {V : Nat → Nat → Int32} {G : Nat → Nat → RF} (h : az = 0) : acX q az V G = dpA az (acX q az V G) := by
  subst h
  exact undo0.symm
section ENDX
variable {v0 v1 v2 v3 v5 : Int32} {hh ww kk : Nat} {g1 g2 g3 g4 g5 : RF}
theorem hz_0 (hL : okLv (nrm v0 v1 v2 v3 hh v5 ww kk g1 g2 g3 g4 g5)) (hb : hh ≤ 999) (wb : ww ≤ 6) (kb : kk ≤ 6) (h : ¬ 0 < v0) : nrm v0 v1 v2 v3 hh v5 ww kk g1 g2 g3 g4 g5 0 = 0 := ((tX hL wb kb (by omega)).1 h).1
theorem hz_1 (hL : okLv (nrm v0 v1 v2 v3 hh v5 ww kk g1 g2 g3 g4 g5)) (hb : hh ≤ 999) (wb : ww ≤ 6) (kb : kk ≤ 6) (h : 0 < v0) : ¬ nrm v0 v1 v2 v3 hh v5 ww kk g1 g2 g3 g4 g5 0 = 0 := ((tX hL wb kb (by omega)).2 h).1
theorem wi_g1 {a b : Int32} (h : a < 0 ∨ nI ww ≤ a) : ¬ gd_wind (nrm v0 v1 v2 v3 hh v5 ww kk g1 g2 g3 g4 g5) a b := by
  rintro ⟨⟨x, y⟩, -⟩
  rw [nr3] at y
  exact h.elim x y
theorem wi_g2 {r : RF} {a b : Int32} (h : b < 0) : ¬ gd_wind r a b := fun q => q.2 (Or.inl h)
theorem wi_g3 {r : RF} {a b : Int32} (h : ¬ b ≤ 4) : ¬ gd_wind r a b := fun q => q.2 (Or.inr (i_nle.mp h))
theorem wi_p {j : Nat} {b : Int32} (hj : j < ww) (hw : ww ≤ 6) (h1 : ¬ b < 0) (h2 : b ≤ 4) : gd_wind (nrm v0 v1 v2 v3 hh v5 ww kk g1 g2 g3 g4 g5) (nI j) b := ⟨by rw [nr3]; exact sB_ok hj (by omega), fun q => q.elim h1 (i_nlt.mpr h2)⟩
theorem wi_L {j : Nat} {b : Int32} {g : RF} (hj : j < ww) (hw : ww ≤ 6) (h1 : ¬ b < 0) (h2 : b ≤ 4) (e : g = upd g1 j b) : nrm v0 v1 v2 v3 hh v5 ww kk g g2 g3 g4 g5 = n_wind (nrm v0 v1 v2 v3 hh v5 ww kk g1 g2 g3 g4 g5) (nI j) b := by
  unfold n_wind
  rw [if_pos (wi_p hj hw h1 h2), nI_clamp (by omega), nrug1 hj hw, e]
theorem wi_A {j : Nat} {b x : Int32} (hj : j < ww) (hw : ww ≤ 6) (h1 : ¬ b < 0) (h2 : b ≤ 4) (e : x = g1 j) : x = a_wind (nrm v0 v1 v2 v3 hh v5 ww kk g1 g2 g3 g4 g5) (nI j) b := by
  unfold a_wind
  rw [if_pos (wi_p hj hw h1 h2), nI_clamp (by omega), nrg1 hj hw, e]
theorem cp_L {x : Int32} (g : gd_cap (nrm v0 v1 v2 v3 hh v5 ww kk g1 g2 g3 g4 g5)) (e : x = 1 - v3) : nrm v0 v1 v2 x hh v5 ww kk g1 g2 g3 g4 g5 = n_cap (nrm v0 v1 v2 v3 hh v5 ww kk g1 g2 g3 g4 g5) := by
  unfold n_cap
  rw [if_pos g, nr6, nru6, e]
theorem cp_A {x : Int32} (g : gd_cap (nrm v0 v1 v2 v3 hh v5 ww kk g1 g2 g3 g4 g5)) (e : x = 1 - v3) : x = a_cap (nrm v0 v1 v2 v3 hh v5 ww kk g1 g2 g3 g4 g5) := by
  unfold a_cap
  rw [if_pos g, nr6, e]
theorem cp_g (h : ¬ nrm v0 v1 v2 v3 hh v5 ww kk g1 g2 g3 g4 g5 0 = 0) : gd_cap (nrm v0 v1 v2 v3 hh v5 ww kk g1 g2 g3 g4 g5) := h
theorem cp_n (h : nrm v0 v1 v2 v3 hh v5 ww kk g1 g2 g3 g4 g5 0 = 0) : ¬ gd_cap (nrm v0 v1 v2 v3 hh v5 ww kk g1 g2 g3 g4 g5) := fun q => q h
theorem lo_g1 {a b c : Int32} (h : a < 0 ∨ nI kk ≤ a) : ¬ ok_loose (nrm v0 v1 v2 v3 hh v5 ww kk g1 g2 g3 g4 g5) a b c := by
  rintro ⟨⟨x, y⟩, -⟩
  rw [nr4] at y
  exact h.elim x y
theorem lo_g2 {a b c : Int32} (h : b < 0 ∨ v0 ≤ b) : ¬ ok_loose (nrm v0 v1 v2 v3 hh v5 ww kk g1 g2 g3 g4 g5) a b c := by
  rintro ⟨-, ⟨x, y⟩, -⟩
  rw [nr0] at y
  exact h.elim x y
theorem lo_g3 {r : RF} {a b c : Int32} (h : c < 1) : ¬ ok_loose r a b c := fun q => q.2.2 (Or.inl h)
theorem lo_g4 {r : RF} {a b c : Int32} (h : ¬ c ≤ 20) : ¬ ok_loose r a b c := fun q => q.2.2 (Or.inr (i_nle.mp h))
theorem lo_p {j : Nat} {b c : Int32} (hj : j < kk) (hk : kk ≤ 6) (b1 : ¬ b < 0) (b2 : ¬ v0 ≤ b) (c1 : ¬ c < 1) (c2 : c ≤ 20) : ok_loose (nrm v0 v1 v2 v3 hh v5 ww kk g1 g2 g3 g4 g5) (nI j) b c := ⟨by rw [nr4]; exact sB_ok hj (by omega), by rw [nr0]; exact ⟨b1, b2⟩, fun q => q.elim c1 (i_nlt.mpr c2)⟩
theorem lo_c {j : Nat} (hj : j < kk) (hk : kk ≤ 6) : nrm v0 v1 v2 v3 hh v5 ww kk g1 g2 g3 g4 g5 (26 + (nI j).toNatClampNeg) = g5 j := by
  rw [nI_clamp (by omega), nrg5 hj hk]
theorem lo_z {j : Nat} {b c : Int32} (hj : j < kk) (hk : kk ≤ 6) (e : g5 j = 0) : ¬ gd_loose (nrm v0 v1 v2 v3 hh v5 ww kk g1 g2 g3 g4 g5) (nI j) b c := fun q => q.2 ((lo_c hj hk).trans e)
theorem lo_a0 {j : Nat} {b c : Int32} (hj : j < kk) (hk : kk ≤ 6) (ok : ok_loose (nrm v0 v1 v2 v3 hh v5 ww kk g1 g2 g3 g4 g5) (nI j) b c) (e : g5 j = 0) : (-1000002 : Int32) = a_loose (nrm v0 v1 v2 v3 hh v5 ww kk g1 g2 g3 g4 g5) (nI j) b c := by
  unfold a_loose
  rw [if_neg (fun t => t ok), if_pos ((lo_c hj hk).trans e)]
theorem lo_q {j : Nat} {b c : Int32} (hj : j < kk) (hk : kk ≤ 6) (ok : ok_loose (nrm v0 v1 v2 v3 hh v5 ww kk g1 g2 g3 g4 g5) (nI j) b c) (ne : ¬ g5 j = 0) : gd_loose (nrm v0 v1 v2 v3 hh v5 ww kk g1 g2 g3 g4 g5) (nI j) b c := ⟨ok, fun q => ne ((lo_c hj hk).symm.trans q)⟩
theorem lo_L {j : Nat} {b c : Int32} {f3 f4 f5 : RF} (hj : j < kk) (hk : kk ≤ 6) (g : gd_loose (nrm v0 v1 v2 v3 hh v5 ww kk g1 g2 g3 g4 g5) (nI j) b c) (e3 : f3 = upd g3 j b) (e4 : f4 = upd g4 j c) (e5 : f5 = upd g5 j 0) : nrm v0 v1 v2 v3 hh v5 ww kk g1 g2 f3 f4 f5 = n_loose (nrm v0 v1 v2 v3 hh v5 ww kk g1 g2 g3 g4 g5) (nI j) b c := by
  unfold n_loose
  rw [if_pos g, nI_clamp (by omega), nrug5 hj hk, nrug3 hj hk, nrug4 hj hk, e3, e4, e5]
theorem lo_A {j : Nat} {b c x : Int32} {f3 f4 f5 : RF} (hj : j < kk) (hk : kk ≤ 6) (g : gd_loose (nrm v0 v1 v2 v3 hh v5 ww kk g1 g2 g3 g4 g5) (nI j) b c) (e3 : f3 = upd g3 j b) (e4 : f4 = upd g4 j c) (e5 : f5 = upd g5 j 0) (h : x = thR f5 0 kk) : x = a_loose (nrm v0 v1 v2 v3 hh v5 ww kk g1 g2 g3 g4 g5) (nI j) b c := by
  unfold a_loose
  rw [if_neg (fun t => t g.1), if_neg g.2, ← lo_L hj hk g e3 e4 e5, th_nrm hk, h]
theorem se_g3 {n : Int32} (h : ¬ n ≤ v5) : ¬ gd_sell (nrm v0 v1 v2 v3 hh v5 ww kk g1 g2 g3 g4 g5) n := fun q => q.2.2 (i_nle.mp h)
theorem se_a3 {n : Int32} (z : ¬ nrm v0 v1 v2 v3 hh v5 ww kk g1 g2 g3 g4 g5 0 = 0) (h1 : ¬ n < 1) (h2 : n ≤ 999) (h : ¬ n ≤ v5) : (-1000002 : Int32) = a_sell (nrm v0 v1 v2 v3 hh v5 ww kk g1 g2 g3 g4 g5) n := by
  have q : ¬ (n < 1 ∨ 999 < n) := fun t => t.elim h1 (i_nlt.mpr h2)
  have t : nrm v0 v1 v2 v3 hh v5 ww kk g1 g2 g3 g4 g5 7 < n := i_nle.mp h
  unfold a_sell
  rw [if_neg z, if_neg q, if_pos t]
theorem se_p {n : Int32} (z : ¬ nrm v0 v1 v2 v3 hh v5 ww kk g1 g2 g3 g4 g5 0 = 0) (h1 : ¬ n < 1) (h2 : n ≤ 999) (h : n ≤ v5) : gd_sell (nrm v0 v1 v2 v3 hh v5 ww kk g1 g2 g3 g4 g5) n := ⟨z, fun t => t.elim h1 (i_nlt.mpr h2), fun t => i_nlt.mpr h t⟩
theorem se_L {n x : Int32} (g : gd_sell (nrm v0 v1 v2 v3 hh v5 ww kk g1 g2 g3 g4 g5) n) (e : x = v5 - n) : nrm v0 v1 v2 v3 hh x ww kk g1 g2 g3 g4 g5 = n_sell (nrm v0 v1 v2 v3 hh v5 ww kk g1 g2 g3 g4 g5) n := by
  unfold n_sell
  rw [if_pos g, nr7, nru7, e]
theorem se_A {n x : Int32} (g : gd_sell (nrm v0 v1 v2 v3 hh v5 ww kk g1 g2 g3 g4 g5) n) (e : x = v5 - n) : x = a_sell (nrm v0 v1 v2 v3 hh v5 ww kk g1 g2 g3 g4 g5) n := by
  unfold a_sell
  rw [if_neg g.1, if_neg g.2.1, if_neg g.2.2, nr7, e]
end ENDX
theorem pr_1 {α β γ : Type} {s : α × β × γ} {a : α} {b : β} {c : γ} (e : s = (a, b, c)) : a = s.1 := by rw [e]
theorem pr_2 {α β γ : Type} {s : α × β × γ} {a : α} {b : β} {c : γ} (e : s = (a, b, c)) : b = s.2.1 := by rw [e]
theorem pr_3 {α β γ : Type} {s : α × β × γ} {a : α} {b : β} {c : γ} (e : s = (a, b, c)) : c = s.2.2 := by rw [e]
theorem dX7_cap_0 : decode cX7_cap 0 = .ok (.aload_n 0, 1) := dq_42 (by decide +kernel)
theorem dX7_cap_1 : decode cX7_cap 1 = .ok (.getfield 26, 3) := dq_180 (b1 := 0) (b2 := 26) (by decide +kernel) (by decide)
theorem dX7_cap_10 : decode cX7_cap 10 = .ok (.ldc 141, 2) := dq_18 (b1 := 141) (by decide +kernel) (by decide)
theorem dX7_cap_12 : decode cX7_cap 12 = .ok (.ireturn, 1) := dq_172 (by decide +kernel)
theorem dX7_cap_13 : decode cX7_cap 13 = .ok (.aload_n 0, 1) := dq_42 (by decide +kernel)
theorem dX7_cap_14 : decode cX7_cap 14 = .ok (.getfield 33, 3) := dq_180 (b1 := 0) (b2 := 33) (by decide +kernel) (by decide)
theorem dX7_cap_17 : decode cX7_cap 17 = .ok (.aload_n 0, 1) := dq_42 (by decide +kernel)
theorem dX7_cap_18 : decode cX7_cap 18 = .ok (.getfield 26, 3) := dq_180 (b1 := 0) (b2 := 26) (by decide +kernel) (by decide)
theorem dX7_cap_21 : decode cX7_cap 21 = .ok (.invokevirtual 151, 3) := dq_182 (b1 := 0) (b2 := 151) (by decide +kernel) (by decide)
theorem dX7_cap_24 : decode cX7_cap 24 = .ok (.aload_n 0, 1) := dq_42 (by decide +kernel)
theorem dX7_cap_25 : decode cX7_cap 25 = .ok (.getfield 26, 3) := dq_180 (b1 := 0) (b2 := 26) (by decide +kernel) (by decide)
theorem dX7_cap_28 : decode cX7_cap 28 = .ok (.invokevirtual 160, 3) := dq_182 (b1 := 0) (b2 := 160) (by decide +kernel) (by decide)
theorem dX7_cap_31 : decode cX7_cap 31 = .ok (.aload_n 0, 1) := dq_42 (by decide +kernel)
theorem dX7_cap_32 : decode cX7_cap 32 = .ok (.getfield 26, 3) := dq_180 (b1 := 0) (b2 := 26) (by decide +kernel) (by decide)
theorem dX7_cap_35 : decode cX7_cap 35 = .ok (.getfield 163, 3) := dq_180 (b1 := 0) (b2 := 163) (by decide +kernel) (by decide)
theorem dX7_cap_38 : decode cX7_cap 38 = .ok (.ireturn, 1) := dq_172 (by decide +kernel)
theorem dX7_cap_4 : decode cX7_cap 4 = .ok (.invokevirtual 145, 3) := dq_182 (b1 := 0) (b2 := 145) (by decide +kernel) (by decide)
theorem dX7_cap_7 : decode cX7_cap 7 = .ok (.ifCond .ne 6, 3) := dq_154 (b1 := 0) (b2 := 6) (by decide +kernel) (by decide)
theorem dX7_wind_0 : decode cX7_wind 0 = .ok (.aload_n 0, 1) := dq_42 (by decide +kernel)
theorem dX7_wind_1 : decode cX7_wind 1 = .ok (.getfield 26, 3) := dq_180 (b1 := 0) (b2 := 26) (by decide +kernel) (by decide)
theorem dX7_wind_11 : decode cX7_wind 11 = .ok (.iload_n 2, 1) := dq_28 (by decide +kernel)
theorem dX7_wind_12 : decode cX7_wind 12 = .ok (.ifCond .lt 8, 3) := dq_155 (b1 := 0) (b2 := 8) (by decide +kernel) (by decide)
theorem dX7_wind_15 : decode cX7_wind 15 = .ok (.iload_n 2, 1) := dq_28 (by decide +kernel)
theorem dX7_wind_16 : decode cX7_wind 16 = .ok (.iconst 4, 1) := dq_7 (by decide +kernel)
theorem dX7_wind_17 : decode cX7_wind 17 = .ok (.if_icmp .le 6, 3) := dq_164 (b1 := 0) (b2 := 6) (by decide +kernel) (by decide)
theorem dX7_wind_20 : decode cX7_wind 20 = .ok (.ldc 72, 2) := dq_18 (b1 := 72) (by decide +kernel) (by decide)
theorem dX7_wind_22 : decode cX7_wind 22 = .ok (.ireturn, 1) := dq_172 (by decide +kernel)
theorem dX7_wind_23 : decode cX7_wind 23 = .ok (.aload_n 0, 1) := dq_42 (by decide +kernel)
theorem dX7_wind_24 : decode cX7_wind 24 = .ok (.getfield 26, 3) := dq_180 (b1 := 0) (b2 := 26) (by decide +kernel) (by decide)
theorem dX7_wind_27 : decode cX7_wind 27 = .ok (.getfield 169, 3) := dq_180 (b1 := 0) (b2 := 169) (by decide +kernel) (by decide)
theorem dX7_wind_30 : decode cX7_wind 30 = .ok (.iload_n 1, 1) := dq_27 (by decide +kernel)
theorem dX7_wind_31 : decode cX7_wind 31 = .ok (.iaload, 1) := dq_46 (by decide +kernel)
theorem dX7_wind_32 : decode cX7_wind 32 = .ok (.istore_n 3, 1) := dq_62 (by decide +kernel)
theorem dX7_wind_33 : decode cX7_wind 33 = .ok (.aload_n 0, 1) := dq_42 (by decide +kernel)
theorem dX7_wind_34 : decode cX7_wind 34 = .ok (.getfield 33, 3) := dq_180 (b1 := 0) (b2 := 33) (by decide +kernel) (by decide)
theorem dX7_wind_37 : decode cX7_wind 37 = .ok (.aload_n 0, 1) := dq_42 (by decide +kernel)
theorem dX7_wind_38 : decode cX7_wind 38 = .ok (.getfield 26, 3) := dq_180 (b1 := 0) (b2 := 26) (by decide +kernel) (by decide)
theorem dX7_wind_4 : decode cX7_wind 4 = .ok (.iload_n 1, 1) := dq_27 (by decide +kernel)
theorem dX7_wind_41 : decode cX7_wind 41 = .ok (.invokevirtual 151, 3) := dq_182 (b1 := 0) (b2 := 151) (by decide +kernel) (by decide)
theorem dX7_wind_44 : decode cX7_wind 44 = .ok (.aload_n 0, 1) := dq_42 (by decide +kernel)
theorem dX7_wind_45 : decode cX7_wind 45 = .ok (.getfield 26, 3) := dq_180 (b1 := 0) (b2 := 26) (by decide +kernel) (by decide)
theorem dX7_wind_48 : decode cX7_wind 48 = .ok (.getfield 169, 3) := dq_180 (b1 := 0) (b2 := 169) (by decide +kernel) (by decide)
theorem dX7_wind_5 : decode cX7_wind 5 = .ok (.invokevirtual 166, 3) := dq_182 (b1 := 0) (b2 := 166) (by decide +kernel) (by decide)
theorem dX7_wind_51 : decode cX7_wind 51 = .ok (.iload_n 1, 1) := dq_27 (by decide +kernel)
theorem dX7_wind_52 : decode cX7_wind 52 = .ok (.iload_n 2, 1) := dq_28 (by decide +kernel)
theorem dX7_wind_53 : decode cX7_wind 53 = .ok (.iastore, 1) := dq_79 (by decide +kernel)
theorem dX7_wind_54 : decode cX7_wind 54 = .ok (.iload_n 3, 1) := dq_29 (by decide +kernel)
theorem dX7_wind_55 : decode cX7_wind 55 = .ok (.ireturn, 1) := dq_172 (by decide +kernel)
theorem dX7_wind_8 : decode cX7_wind 8 = .ok (.ifCond .eq 12, 3) := dq_153 (b1 := 0) (b2 := 12) (by decide +kernel) (by decide)
theorem mb_X7_cap_wsX7_cap_r1 {w : Cond} (h : w ∈ wsX7_cap_r1) : w ∈ wsX7_cap := by unfold wsX7_cap; exact List.mem_cons_of_mem _ (List.mem_append_left _ (List.mem_append_left _ (List.mem_append_left _ (List.mem_append_left _ (h)))))
theorem mx_X7_cap_15 : Cond.code yX0_keep cX0_keep 2 none ∈ wsX7_cap := mb_X7_cap_wsX7_cap_r1 (List.mem_of_getElem? (i := 14) rfl)
theorem mx_X7_cap_16 : Cond.fieldLink RX0 11 "MillTalk$Acts" "before" "[LMillTalk$Level;" ∈ wsX7_cap := mb_X7_cap_wsX7_cap_r1 (List.mem_of_getElem? (i := 15) rfl)
theorem mx_X7_cap_17 : Cond.fieldLink RX0 20 "MillTalk$Acts" "next" "I" ∈ wsX7_cap := mb_X7_cap_wsX7_cap_r1 (List.mem_of_getElem? (i := 16) rfl)
theorem mx_X7_cap_18 : Cond.fieldLink RX0 16 "MillTalk$Acts" "size" "I" ∈ wsX7_cap := mb_X7_cap_wsX7_cap_r1 (List.mem_of_getElem? (i := 17) rfl)
theorem mx_X7_cap_19 : Cond.methodLink RX0 27 Lib.Math.min.name ∈ wsX7_cap := mb_X7_cap_wsX7_cap_r1 (List.mem_of_getElem? (i := 18) rfl)
theorem mx_X7_cap_20 : Cond.static Lib.Math.min.name ∈ wsX7_cap := mb_X7_cap_wsX7_cap_r1 (List.mem_of_getElem? (i := 19) rfl)
theorem mx_X7_cap_21 : Cond.initialized "java/lang/Math" ∈ wsX7_cap := mb_X7_cap_wsX7_cap_r1 (List.mem_of_getElem? (i := 20) rfl)
theorem mx_X7_cap_22 : Cond.code Lib.Math.min.name Lib.Math.min.code 2 (some .int) ∈ wsX7_cap := mb_X7_cap_wsX7_cap_r1 (List.mem_of_getElem? (i := 21) rfl)
theorem mx_X7_cap_23 : Cond.methodLink RX0 23 yX3_becomeLike ∈ wsX7_cap := mb_X7_cap_wsX7_cap_r1 (List.mem_of_getElem? (i := 22) rfl)
theorem mx_X7_cap_24 : Cond.instanceMethod yX3_becomeLike ∈ wsX7_cap := mb_X7_cap_wsX7_cap_r1 (List.mem_of_getElem? (i := 23) rfl)
theorem mb_X7_cap_wsX7_cap_r2 {w : Cond} (h : w ∈ wsX7_cap_r2) : w ∈ wsX7_cap := by unfold wsX7_cap; exact List.mem_cons_of_mem _ (List.mem_append_left _ (List.mem_append_left _ (List.mem_append_left _ (List.mem_append_right _ (h)))))
theorem mx_X7_cap_25 : Cond.selects RX3 yX3_becomeLike yX3_becomeLike ∈ wsX7_cap := mb_X7_cap_wsX7_cap_r2 (List.mem_of_getElem? (i := 0) rfl)
theorem mx_X7_cap_8 : Cond.initialized RX3 ∈ wsX7_cap := mb_X7_cap_wsX7_cap_r1 (List.mem_of_getElem? (i := 7) rfl)
theorem mx_X7_cap_26 : Cond.code yX3_becomeLike cX3_becomeLike 2 none ∈ wsX7_cap := mb_X7_cap_wsX7_cap_r2 (List.mem_of_getElem? (i := 1) rfl)
theorem mx_X7_cap_10 : Cond.fieldLink RX3 27 "MillTalk$Level" "cells" "I" ∈ wsX7_cap := mb_X7_cap_wsX7_cap_r1 (List.mem_of_getElem? (i := 9) rfl)
theorem mx_X7_cap_27 : Cond.fieldLink RX3 31 "MillTalk$Level" "mill" "I" ∈ wsX7_cap := mb_X7_cap_wsX7_cap_r2 (List.mem_of_getElem? (i := 2) rfl)
theorem mx_X7_cap_28 : Cond.fieldLink RX3 34 "MillTalk$Level" "reach" "I" ∈ wsX7_cap := mb_X7_cap_wsX7_cap_r2 (List.mem_of_getElem? (i := 3) rfl)
theorem mx_X7_cap_29 : Cond.fieldLink RX3 37 "MillTalk$Level" "cap" "I" ∈ wsX7_cap := mb_X7_cap_wsX7_cap_r2 (List.mem_of_getElem? (i := 4) rfl)
theorem mx_X7_cap_30 : Cond.fieldLink RX3 40 "MillTalk$Level" "hour" "I" ∈ wsX7_cap := mb_X7_cap_wsX7_cap_r2 (List.mem_of_getElem? (i := 5) rfl)
theorem mx_X7_cap_31 : Cond.fieldLink RX3 43 "MillTalk$Level" "meal" "I" ∈ wsX7_cap := mb_X7_cap_wsX7_cap_r2 (List.mem_of_getElem? (i := 6) rfl)
theorem mx_X7_cap_32 : Cond.fieldLink RX3 46 "MillTalk$Level" "windCount" "I" ∈ wsX7_cap := mb_X7_cap_wsX7_cap_r2 (List.mem_of_getElem? (i := 7) rfl)
theorem mx_X7_cap_33 : Cond.fieldLink RX3 49 "MillTalk$Level" "soundCount" "I" ∈ wsX7_cap := mb_X7_cap_wsX7_cap_r2 (List.mem_of_getElem? (i := 8) rfl)
theorem mx_X7_cap_34 : Cond.fieldLink RX3 9 "MillTalk$Level" "winds" "[I" ∈ wsX7_cap := mb_X7_cap_wsX7_cap_r2 (List.mem_of_getElem? (i := 9) rfl)
theorem mx_X7_cap_35 : Cond.methodLink RX3 52 arraycopyName ∈ wsX7_cap := mb_X7_cap_wsX7_cap_r2 (List.mem_of_getElem? (i := 10) rfl)
theorem mx_X7_cap_36 : Cond.native arraycopyName ∈ wsX7_cap := mb_X7_cap_wsX7_cap_r2 (List.mem_of_getElem? (i := 11) rfl)
theorem mx_X7_cap_37 : Cond.static arraycopyName ∈ wsX7_cap := mb_X7_cap_wsX7_cap_r2 (List.mem_of_getElem? (i := 12) rfl)
theorem mx_X7_cap_38 : Cond.initialized "java/lang/System" ∈ wsX7_cap := mb_X7_cap_wsX7_cap_r2 (List.mem_of_getElem? (i := 13) rfl)
theorem mx_X7_cap_39 : Cond.fieldLink RX3 15 "MillTalk$Level" "kinds" "[I" ∈ wsX7_cap := mb_X7_cap_wsX7_cap_r2 (List.mem_of_getElem? (i := 14) rfl)
theorem mx_X7_cap_40 : Cond.fieldLink RX3 18 "MillTalk$Level" "places" "[I" ∈ wsX7_cap := mb_X7_cap_wsX7_cap_r2 (List.mem_of_getElem? (i := 15) rfl)
theorem mx_X7_cap_41 : Cond.fieldLink RX3 21 "MillTalk$Level" "louds" "[I" ∈ wsX7_cap := mb_X7_cap_wsX7_cap_r2 (List.mem_of_getElem? (i := 16) rfl)
theorem mx_X7_cap_42 : Cond.fieldLink RX3 24 "MillTalk$Level" "hows" "[I" ∈ wsX7_cap := mb_X7_cap_wsX7_cap_r2 (List.mem_of_getElem? (i := 17) rfl)
theorem mb_X7_cap_wsX00 {w : Cond} (h : w ∈ wsX00) : w ∈ wsX7_cap := by unfold wsX7_cap; exact List.mem_cons_of_mem _ (List.mem_append_right _ (h))
theorem mb_X7_cap_wsX30 {w : Cond} (h : w ∈ wsX30) : w ∈ wsX7_cap := by unfold wsX7_cap; exact List.mem_cons_of_mem _ (List.mem_append_left _ (List.mem_append_right _ (h)))
theorem ggX7_cap_X0_keep : GoodIn wsX7_cap wsX0_keep := goodIn_sub (by unfold wsX0_keep; exact List.forall_mem_cons.mpr ⟨mx_X7_cap_15, List.forall_mem_append.mpr ⟨List.forall_mem_append.mpr ⟨List.forall_mem_append.mpr ⟨(by unfold wsX0_keep_r1; exact List.forall_mem_cons.mpr ⟨mx_X7_cap_16, List.forall_mem_cons.mpr ⟨mx_X7_cap_17, List.forall_mem_cons.mpr ⟨mx_X7_cap_18, List.forall_mem_cons.mpr ⟨mx_X7_cap_19, List.forall_mem_cons.mpr ⟨mx_X7_cap_20, List.forall_mem_cons.mpr ⟨mx_X7_cap_21, List.forall_mem_cons.mpr ⟨mx_X7_cap_22, List.forall_mem_cons.mpr ⟨mx_X7_cap_23, List.forall_mem_cons.mpr ⟨mx_X7_cap_24, List.forall_mem_cons.mpr ⟨mx_X7_cap_25, List.forall_mem_cons.mpr ⟨mx_X7_cap_8, List.forall_mem_cons.mpr ⟨mx_X7_cap_26, List.forall_mem_cons.mpr ⟨mx_X7_cap_10, List.forall_mem_cons.mpr ⟨mx_X7_cap_27, List.forall_mem_cons.mpr ⟨mx_X7_cap_28, List.forall_mem_cons.mpr ⟨mx_X7_cap_29, List.forall_mem_cons.mpr ⟨mx_X7_cap_30, List.forall_mem_cons.mpr ⟨mx_X7_cap_31, List.forall_mem_cons.mpr ⟨mx_X7_cap_32, List.forall_mem_cons.mpr ⟨mx_X7_cap_33, List.forall_mem_cons.mpr ⟨mx_X7_cap_34, List.forall_mem_cons.mpr ⟨mx_X7_cap_35, List.forall_mem_cons.mpr ⟨mx_X7_cap_36, List.forall_mem_cons.mpr ⟨mx_X7_cap_37, fun _ h_ => absurd h_ List.not_mem_nil⟩⟩⟩⟩⟩⟩⟩⟩⟩⟩⟩⟩⟩⟩⟩⟩⟩⟩⟩⟩⟩⟩⟩⟩), (by unfold wsX0_keep_r2; exact List.forall_mem_cons.mpr ⟨mx_X7_cap_38, List.forall_mem_cons.mpr ⟨mx_X7_cap_39, List.forall_mem_cons.mpr ⟨mx_X7_cap_40, List.forall_mem_cons.mpr ⟨mx_X7_cap_41, List.forall_mem_cons.mpr ⟨mx_X7_cap_42, fun _ h_ => absurd h_ List.not_mem_nil⟩⟩⟩⟩⟩)⟩, (fun _ h_ => mb_X7_cap_wsX00 h_)⟩, (fun _ h_ => mb_X7_cap_wsX30 h_)⟩⟩) (by decide +kernel)
theorem mx_X7_cap_11 : Cond.methodLink RX7 151 yX0_keep ∈ wsX7_cap := mb_X7_cap_wsX7_cap_r1 (List.mem_of_getElem? (i := 10) rfl)
theorem mx_X7_cap_12 : Cond.instanceMethod yX0_keep ∈ wsX7_cap := mb_X7_cap_wsX7_cap_r1 (List.mem_of_getElem? (i := 11) rfl)
theorem mx_X7_cap_13 : Cond.selects RX0 yX0_keep yX0_keep ∈ wsX7_cap := mb_X7_cap_wsX7_cap_r1 (List.mem_of_getElem? (i := 12) rfl)
theorem mx_X7_cap_14 : Cond.initialized RX0 ∈ wsX7_cap := mb_X7_cap_wsX7_cap_r1 (List.mem_of_getElem? (i := 13) rfl)
theorem gX7_cap_X0_keep : GoodIn wsX7_cap (wsV RX7 151 RX0 yX0_keep wsX0_keep) := goodIn_app (goodIn_sub (List.forall_mem_cons.mpr ⟨mx_X7_cap_11, List.forall_mem_cons.mpr ⟨mx_X7_cap_12, List.forall_mem_cons.mpr ⟨mx_X7_cap_13, List.forall_mem_cons.mpr ⟨mx_X7_cap_14, fun _ h_ => absurd h_ List.not_mem_nil⟩⟩⟩⟩) (by decide +kernel)) ggX7_cap_X0_keep
theorem mx_X7_cap_9 : Cond.code yX3_isTold cX3_isTold 1 (some .boolean) ∈ wsX7_cap := mb_X7_cap_wsX7_cap_r1 (List.mem_of_getElem? (i := 8) rfl)
theorem ggX7_cap_X3_isTold : GoodIn wsX7_cap wsX3_isTold := goodIn_sub (by unfold wsX3_isTold; exact List.forall_mem_cons.mpr ⟨mx_X7_cap_9, List.forall_mem_append.mpr ⟨List.forall_mem_cons.mpr ⟨mx_X7_cap_10, fun _ h_ => absurd h_ List.not_mem_nil⟩, (fun _ h_ => mb_X7_cap_wsX30 h_)⟩⟩) (by decide +kernel)
theorem mx_X7_cap_5 : Cond.methodLink RX7 145 yX3_isTold ∈ wsX7_cap := mb_X7_cap_wsX7_cap_r1 (List.mem_of_getElem? (i := 4) rfl)
theorem mx_X7_cap_6 : Cond.instanceMethod yX3_isTold ∈ wsX7_cap := mb_X7_cap_wsX7_cap_r1 (List.mem_of_getElem? (i := 5) rfl)
theorem mx_X7_cap_7 : Cond.selects RX3 yX3_isTold yX3_isTold ∈ wsX7_cap := mb_X7_cap_wsX7_cap_r1 (List.mem_of_getElem? (i := 6) rfl)
theorem gX7_cap_X3_isTold : GoodIn wsX7_cap (wsV RX7 145 RX3 yX3_isTold wsX3_isTold) := goodIn_app (goodIn_sub (List.forall_mem_cons.mpr ⟨mx_X7_cap_5, List.forall_mem_cons.mpr ⟨mx_X7_cap_6, List.forall_mem_cons.mpr ⟨mx_X7_cap_7, List.forall_mem_cons.mpr ⟨mx_X7_cap_8, fun _ h_ => absurd h_ List.not_mem_nil⟩⟩⟩⟩) (by decide +kernel)) ggX7_cap_X3_isTold
theorem mx_X7_cap_46 : Cond.code yX3_turnCap cX3_turnCap 1 none ∈ wsX7_cap := mb_X7_cap_wsX7_cap_r2 (List.mem_of_getElem? (i := 21) rfl)
theorem ggX7_cap_X3_turnCap : GoodIn wsX7_cap wsX3_turnCap := goodIn_sub (by unfold wsX3_turnCap; exact List.forall_mem_cons.mpr ⟨mx_X7_cap_46, List.forall_mem_append.mpr ⟨List.forall_mem_cons.mpr ⟨mx_X7_cap_29, fun _ h_ => absurd h_ List.not_mem_nil⟩, (fun _ h_ => mb_X7_cap_wsX30 h_)⟩⟩) (by decide +kernel)
theorem mx_X7_cap_43 : Cond.methodLink RX7 160 yX3_turnCap ∈ wsX7_cap := mb_X7_cap_wsX7_cap_r2 (List.mem_of_getElem? (i := 18) rfl)
theorem mx_X7_cap_44 : Cond.instanceMethod yX3_turnCap ∈ wsX7_cap := mb_X7_cap_wsX7_cap_r2 (List.mem_of_getElem? (i := 19) rfl)
theorem mx_X7_cap_45 : Cond.selects RX3 yX3_turnCap yX3_turnCap ∈ wsX7_cap := mb_X7_cap_wsX7_cap_r2 (List.mem_of_getElem? (i := 20) rfl)
theorem gX7_cap_X3_turnCap : GoodIn wsX7_cap (wsV RX7 160 RX3 yX3_turnCap wsX3_turnCap) := goodIn_app (goodIn_sub (List.forall_mem_cons.mpr ⟨mx_X7_cap_43, List.forall_mem_cons.mpr ⟨mx_X7_cap_44, List.forall_mem_cons.mpr ⟨mx_X7_cap_45, List.forall_mem_cons.mpr ⟨mx_X7_cap_8, fun _ h_ => absurd h_ List.not_mem_nil⟩⟩⟩⟩) (by decide +kernel)) ggX7_cap_X3_turnCap
theorem mb_X7_wind_wsX7_wind_r1 {w : Cond} (h : w ∈ wsX7_wind_r1) : w ∈ wsX7_wind := by unfold wsX7_wind; exact List.mem_cons_of_mem _ (List.mem_append_left _ (List.mem_append_left _ (List.mem_append_left _ (List.mem_append_left _ (h)))))
theorem mx_X7_wind_15 : Cond.code yX0_keep cX0_keep 2 none ∈ wsX7_wind := mb_X7_wind_wsX7_wind_r1 (List.mem_of_getElem? (i := 14) rfl)
theorem mx_X7_wind_16 : Cond.fieldLink RX0 11 "MillTalk$Acts" "before" "[LMillTalk$Level;" ∈ wsX7_wind := mb_X7_wind_wsX7_wind_r1 (List.mem_of_getElem? (i := 15) rfl)
theorem mx_X7_wind_17 : Cond.fieldLink RX0 20 "MillTalk$Acts" "next" "I" ∈ wsX7_wind := mb_X7_wind_wsX7_wind_r1 (List.mem_of_getElem? (i := 16) rfl)
theorem mx_X7_wind_18 : Cond.fieldLink RX0 16 "MillTalk$Acts" "size" "I" ∈ wsX7_wind := mb_X7_wind_wsX7_wind_r1 (List.mem_of_getElem? (i := 17) rfl)
theorem mx_X7_wind_19 : Cond.methodLink RX0 27 Lib.Math.min.name ∈ wsX7_wind := mb_X7_wind_wsX7_wind_r1 (List.mem_of_getElem? (i := 18) rfl)
theorem mx_X7_wind_20 : Cond.static Lib.Math.min.name ∈ wsX7_wind := mb_X7_wind_wsX7_wind_r1 (List.mem_of_getElem? (i := 19) rfl)
theorem mx_X7_wind_21 : Cond.initialized "java/lang/Math" ∈ wsX7_wind := mb_X7_wind_wsX7_wind_r1 (List.mem_of_getElem? (i := 20) rfl)
theorem mx_X7_wind_22 : Cond.code Lib.Math.min.name Lib.Math.min.code 2 (some .int) ∈ wsX7_wind := mb_X7_wind_wsX7_wind_r1 (List.mem_of_getElem? (i := 21) rfl)
theorem mx_X7_wind_23 : Cond.methodLink RX0 23 yX3_becomeLike ∈ wsX7_wind := mb_X7_wind_wsX7_wind_r1 (List.mem_of_getElem? (i := 22) rfl)
theorem mx_X7_wind_24 : Cond.instanceMethod yX3_becomeLike ∈ wsX7_wind := mb_X7_wind_wsX7_wind_r1 (List.mem_of_getElem? (i := 23) rfl)
theorem mb_X7_wind_wsX7_wind_r2 {w : Cond} (h : w ∈ wsX7_wind_r2) : w ∈ wsX7_wind := by unfold wsX7_wind; exact List.mem_cons_of_mem _ (List.mem_append_left _ (List.mem_append_left _ (List.mem_append_left _ (List.mem_append_right _ (h)))))
theorem mx_X7_wind_25 : Cond.selects RX3 yX3_becomeLike yX3_becomeLike ∈ wsX7_wind := mb_X7_wind_wsX7_wind_r2 (List.mem_of_getElem? (i := 0) rfl)
theorem mx_X7_wind_8 : Cond.initialized RX3 ∈ wsX7_wind := mb_X7_wind_wsX7_wind_r1 (List.mem_of_getElem? (i := 7) rfl)
theorem mx_X7_wind_26 : Cond.code yX3_becomeLike cX3_becomeLike 2 none ∈ wsX7_wind := mb_X7_wind_wsX7_wind_r2 (List.mem_of_getElem? (i := 1) rfl)
theorem mx_X7_wind_27 : Cond.fieldLink RX3 27 "MillTalk$Level" "cells" "I" ∈ wsX7_wind := mb_X7_wind_wsX7_wind_r2 (List.mem_of_getElem? (i := 2) rfl)
theorem mx_X7_wind_28 : Cond.fieldLink RX3 31 "MillTalk$Level" "mill" "I" ∈ wsX7_wind := mb_X7_wind_wsX7_wind_r2 (List.mem_of_getElem? (i := 3) rfl)
theorem mx_X7_wind_29 : Cond.fieldLink RX3 34 "MillTalk$Level" "reach" "I" ∈ wsX7_wind := mb_X7_wind_wsX7_wind_r2 (List.mem_of_getElem? (i := 4) rfl)
theorem mx_X7_wind_30 : Cond.fieldLink RX3 37 "MillTalk$Level" "cap" "I" ∈ wsX7_wind := mb_X7_wind_wsX7_wind_r2 (List.mem_of_getElem? (i := 5) rfl)
theorem mx_X7_wind_31 : Cond.fieldLink RX3 40 "MillTalk$Level" "hour" "I" ∈ wsX7_wind := mb_X7_wind_wsX7_wind_r2 (List.mem_of_getElem? (i := 6) rfl)
theorem mx_X7_wind_32 : Cond.fieldLink RX3 43 "MillTalk$Level" "meal" "I" ∈ wsX7_wind := mb_X7_wind_wsX7_wind_r2 (List.mem_of_getElem? (i := 7) rfl)
theorem mx_X7_wind_10 : Cond.fieldLink RX3 46 "MillTalk$Level" "windCount" "I" ∈ wsX7_wind := mb_X7_wind_wsX7_wind_r1 (List.mem_of_getElem? (i := 9) rfl)
theorem mx_X7_wind_33 : Cond.fieldLink RX3 49 "MillTalk$Level" "soundCount" "I" ∈ wsX7_wind := mb_X7_wind_wsX7_wind_r2 (List.mem_of_getElem? (i := 8) rfl)
theorem mx_X7_wind_34 : Cond.fieldLink RX3 9 "MillTalk$Level" "winds" "[I" ∈ wsX7_wind := mb_X7_wind_wsX7_wind_r2 (List.mem_of_getElem? (i := 9) rfl)
theorem mx_X7_wind_35 : Cond.methodLink RX3 52 arraycopyName ∈ wsX7_wind := mb_X7_wind_wsX7_wind_r2 (List.mem_of_getElem? (i := 10) rfl)
theorem mx_X7_wind_36 : Cond.native arraycopyName ∈ wsX7_wind := mb_X7_wind_wsX7_wind_r2 (List.mem_of_getElem? (i := 11) rfl)
theorem mx_X7_wind_37 : Cond.static arraycopyName ∈ wsX7_wind := mb_X7_wind_wsX7_wind_r2 (List.mem_of_getElem? (i := 12) rfl)
theorem mx_X7_wind_38 : Cond.initialized "java/lang/System" ∈ wsX7_wind := mb_X7_wind_wsX7_wind_r2 (List.mem_of_getElem? (i := 13) rfl)
theorem mx_X7_wind_39 : Cond.fieldLink RX3 15 "MillTalk$Level" "kinds" "[I" ∈ wsX7_wind := mb_X7_wind_wsX7_wind_r2 (List.mem_of_getElem? (i := 14) rfl)
theorem mx_X7_wind_40 : Cond.fieldLink RX3 18 "MillTalk$Level" "places" "[I" ∈ wsX7_wind := mb_X7_wind_wsX7_wind_r2 (List.mem_of_getElem? (i := 15) rfl)
theorem mx_X7_wind_41 : Cond.fieldLink RX3 21 "MillTalk$Level" "louds" "[I" ∈ wsX7_wind := mb_X7_wind_wsX7_wind_r2 (List.mem_of_getElem? (i := 16) rfl)
theorem mx_X7_wind_42 : Cond.fieldLink RX3 24 "MillTalk$Level" "hows" "[I" ∈ wsX7_wind := mb_X7_wind_wsX7_wind_r2 (List.mem_of_getElem? (i := 17) rfl)
theorem mb_X7_wind_wsX00 {w : Cond} (h : w ∈ wsX00) : w ∈ wsX7_wind := by unfold wsX7_wind; exact List.mem_cons_of_mem _ (List.mem_append_right _ (h))
theorem mb_X7_wind_wsX30 {w : Cond} (h : w ∈ wsX30) : w ∈ wsX7_wind := by unfold wsX7_wind; exact List.mem_cons_of_mem _ (List.mem_append_left _ (List.mem_append_right _ (h)))
theorem ggX7_wind_X0_keep : GoodIn wsX7_wind wsX0_keep := goodIn_sub (by unfold wsX0_keep; exact List.forall_mem_cons.mpr ⟨mx_X7_wind_15, List.forall_mem_append.mpr ⟨List.forall_mem_append.mpr ⟨List.forall_mem_append.mpr ⟨(by unfold wsX0_keep_r1; exact List.forall_mem_cons.mpr ⟨mx_X7_wind_16, List.forall_mem_cons.mpr ⟨mx_X7_wind_17, List.forall_mem_cons.mpr ⟨mx_X7_wind_18, List.forall_mem_cons.mpr ⟨mx_X7_wind_19, List.forall_mem_cons.mpr ⟨mx_X7_wind_20, List.forall_mem_cons.mpr ⟨mx_X7_wind_21, List.forall_mem_cons.mpr ⟨mx_X7_wind_22, List.forall_mem_cons.mpr ⟨mx_X7_wind_23, List.forall_mem_cons.mpr ⟨mx_X7_wind_24, List.forall_mem_cons.mpr ⟨mx_X7_wind_25, List.forall_mem_cons.mpr ⟨mx_X7_wind_8, List.forall_mem_cons.mpr ⟨mx_X7_wind_26, List.forall_mem_cons.mpr ⟨mx_X7_wind_27, List.forall_mem_cons.mpr ⟨mx_X7_wind_28, List.forall_mem_cons.mpr ⟨mx_X7_wind_29, List.forall_mem_cons.mpr ⟨mx_X7_wind_30, List.forall_mem_cons.mpr ⟨mx_X7_wind_31, List.forall_mem_cons.mpr ⟨mx_X7_wind_32, List.forall_mem_cons.mpr ⟨mx_X7_wind_10, List.forall_mem_cons.mpr ⟨mx_X7_wind_33, List.forall_mem_cons.mpr ⟨mx_X7_wind_34, List.forall_mem_cons.mpr ⟨mx_X7_wind_35, List.forall_mem_cons.mpr ⟨mx_X7_wind_36, List.forall_mem_cons.mpr ⟨mx_X7_wind_37, fun _ h_ => absurd h_ List.not_mem_nil⟩⟩⟩⟩⟩⟩⟩⟩⟩⟩⟩⟩⟩⟩⟩⟩⟩⟩⟩⟩⟩⟩⟩⟩), (by unfold wsX0_keep_r2; exact List.forall_mem_cons.mpr ⟨mx_X7_wind_38, List.forall_mem_cons.mpr ⟨mx_X7_wind_39, List.forall_mem_cons.mpr ⟨mx_X7_wind_40, List.forall_mem_cons.mpr ⟨mx_X7_wind_41, List.forall_mem_cons.mpr ⟨mx_X7_wind_42, fun _ h_ => absurd h_ List.not_mem_nil⟩⟩⟩⟩⟩)⟩, (fun _ h_ => mb_X7_wind_wsX00 h_)⟩, (fun _ h_ => mb_X7_wind_wsX30 h_)⟩⟩) (by decide +kernel)
theorem mx_X7_wind_11 : Cond.methodLink RX7 151 yX0_keep ∈ wsX7_wind := mb_X7_wind_wsX7_wind_r1 (List.mem_of_getElem? (i := 10) rfl)
theorem mx_X7_wind_12 : Cond.instanceMethod yX0_keep ∈ wsX7_wind := mb_X7_wind_wsX7_wind_r1 (List.mem_of_getElem? (i := 11) rfl)
theorem mx_X7_wind_13 : Cond.selects RX0 yX0_keep yX0_keep ∈ wsX7_wind := mb_X7_wind_wsX7_wind_r1 (List.mem_of_getElem? (i := 12) rfl)
theorem mx_X7_wind_14 : Cond.initialized RX0 ∈ wsX7_wind := mb_X7_wind_wsX7_wind_r1 (List.mem_of_getElem? (i := 13) rfl)
theorem gX7_wind_X0_keep : GoodIn wsX7_wind (wsV RX7 151 RX0 yX0_keep wsX0_keep) := goodIn_app (goodIn_sub (List.forall_mem_cons.mpr ⟨mx_X7_wind_11, List.forall_mem_cons.mpr ⟨mx_X7_wind_12, List.forall_mem_cons.mpr ⟨mx_X7_wind_13, List.forall_mem_cons.mpr ⟨mx_X7_wind_14, fun _ h_ => absurd h_ List.not_mem_nil⟩⟩⟩⟩) (by decide +kernel)) ggX7_wind_X0_keep
theorem mx_X7_wind_9 : Cond.code yX3_hasWind cX3_hasWind 2 (some .boolean) ∈ wsX7_wind := mb_X7_wind_wsX7_wind_r1 (List.mem_of_getElem? (i := 8) rfl)
theorem ggX7_wind_X3_hasWind : GoodIn wsX7_wind wsX3_hasWind := goodIn_sub (by unfold wsX3_hasWind; exact List.forall_mem_cons.mpr ⟨mx_X7_wind_9, List.forall_mem_append.mpr ⟨List.forall_mem_cons.mpr ⟨mx_X7_wind_10, fun _ h_ => absurd h_ List.not_mem_nil⟩, (fun _ h_ => mb_X7_wind_wsX30 h_)⟩⟩) (by decide +kernel)
theorem mx_X7_wind_5 : Cond.methodLink RX7 166 yX3_hasWind ∈ wsX7_wind := mb_X7_wind_wsX7_wind_r1 (List.mem_of_getElem? (i := 4) rfl)
theorem mx_X7_wind_6 : Cond.instanceMethod yX3_hasWind ∈ wsX7_wind := mb_X7_wind_wsX7_wind_r1 (List.mem_of_getElem? (i := 5) rfl)
theorem mx_X7_wind_7 : Cond.selects RX3 yX3_hasWind yX3_hasWind ∈ wsX7_wind := mb_X7_wind_wsX7_wind_r1 (List.mem_of_getElem? (i := 6) rfl)
theorem gX7_wind_X3_hasWind : GoodIn wsX7_wind (wsV RX7 166 RX3 yX3_hasWind wsX3_hasWind) := goodIn_app (goodIn_sub (List.forall_mem_cons.mpr ⟨mx_X7_wind_5, List.forall_mem_cons.mpr ⟨mx_X7_wind_6, List.forall_mem_cons.mpr ⟨mx_X7_wind_7, List.forall_mem_cons.mpr ⟨mx_X7_wind_8, fun _ h_ => absurd h_ List.not_mem_nil⟩⟩⟩⟩) (by decide +kernel)) ggX7_wind_X3_hasWind
theorem i_X7_cap_X3 : ∀ w ∈ u_ws RX3 TX3 13, w ∈ wsX7_cap := fun _ h_ => mb_X7_cap_wsX30 h_
theorem mb_X7_cap_wsX70 {w : Cond} (h : w ∈ wsX70) : w ∈ wsX7_cap := by unfold wsX7_cap; exact List.mem_cons_of_mem _ (List.mem_append_left _ (List.mem_append_left _ (List.mem_append_right _ (h))))
theorem i_X7_cap_X7 : ∀ w ∈ u_ws RX7 TX7 11, w ∈ wsX7_cap := fun _ h_ => mb_X7_cap_wsX70 h_
theorem i_X7_wind_X3 : ∀ w ∈ u_ws RX3 TX3 13, w ∈ wsX7_wind := fun _ h_ => mb_X7_wind_wsX30 h_
theorem mb_X7_wind_wsX70 {w : Cond} (h : w ∈ wsX70) : w ∈ wsX7_wind := by unfold wsX7_wind; exact List.mem_cons_of_mem _ (List.mem_append_left _ (List.mem_append_left _ (List.mem_append_right _ (h))))
theorem i_X7_wind_X7 : ∀ w ∈ u_ws RX7 TX7 11, w ∈ wsX7_wind := fun _ h_ => mb_X7_wind_wsX70 h_
theorem mx_X7_cap_1 : Cond.fieldLink RX7 26 "MillTalk" "now" "LMillTalk$Level;" ∈ wsX7_cap := mb_X7_cap_wsX7_cap_r1 (List.mem_of_getElem? (i := 0) rfl)
theorem mx_X7_cap_2 : Cond.constant RX7 141 (-1000002) ∈ wsX7_cap := mb_X7_cap_wsX7_cap_r1 (List.mem_of_getElem? (i := 1) rfl)
theorem mx_X7_cap_3 : Cond.fieldLink RX7 33 "MillTalk" "acts" "LMillTalk$Acts;" ∈ wsX7_cap := mb_X7_cap_wsX7_cap_r1 (List.mem_of_getElem? (i := 2) rfl)
theorem mx_X7_cap_4 : Cond.fieldLink RX7 163 "MillTalk$Level" "cap" "I" ∈ wsX7_cap := mb_X7_cap_wsX7_cap_r1 (List.mem_of_getElem? (i := 3) rfl)
theorem mx_X7_wind_1 : Cond.fieldLink RX7 26 "MillTalk" "now" "LMillTalk$Level;" ∈ wsX7_wind := mb_X7_wind_wsX7_wind_r1 (List.mem_of_getElem? (i := 0) rfl)
theorem mx_X7_wind_2 : Cond.constant RX7 72 (-1000001) ∈ wsX7_wind := mb_X7_wind_wsX7_wind_r1 (List.mem_of_getElem? (i := 1) rfl)
theorem mx_X7_wind_3 : Cond.fieldLink RX7 169 "MillTalk$Level" "winds" "[I" ∈ wsX7_wind := mb_X7_wind_wsX7_wind_r1 (List.mem_of_getElem? (i := 2) rfl)
theorem mx_X7_wind_4 : Cond.fieldLink RX7 33 "MillTalk" "acts" "LMillTalk$Acts;" ∈ wsX7_wind := mb_X7_wind_wsX7_wind_r1 (List.mem_of_getElem? (i := 3) rfl)
-- 29.mill3
set_option maxHeartbeats 60000 in
theorem lf_X7_cap_1 {nv0 : Int32} {nv1 : Int32} {nv2 : Int32} {nv3 : Int32} {nv5 : Int32} {nhh : Nat} {nww : Nat} {nkk : Nat} {ng1 : Nat → Int32} {ng2 : Nat → Int32} {ng3 : Nat → Int32} {ng4 : Nat → Int32} {ng5 : Nat → Int32} {q : Nat} {az : Nat} {fb : Nat → Option Nat} {ad : Nat → Nat} {V : Nat → Nat → Int32} (nhb : nhh ≤ 999) (nwb : nww ≤ 6) (nkb : nkk ≤ 6) (hLv : okLv (nrm nv0 nv1 nv2 nv3 nhh nv5 nww nkk ng1 ng2 ng3 ng4 ng5)) (hfb : ∀ i : Nat, i < 24 → fb i = some (ad i)) (hok : ∀ i : Nat, i < 24 → okL (V i)) (hq : q < 24) (haz : az ≤ 24) (f_1_0_0 : ¬ 0 < nv0) : (nrm nv0 nv1 nv2 nv3 nhh nv5 nww nkk ng1 ng2 ng3 ng4 ng5) = n_cap (nrm nv0 nv1 nv2 nv3 nhh nv5 nww nkk ng1 ng2 ng3 ng4 ng5) := by
  first
  | with_reducible exact cp_l (cp_n (hz_0 hLv nhb nwb nkb f_1_0_0))
  | with_reducible exact kz_n (cp_n (hz_0 hLv nhb nwb nkb f_1_0_0))
  | with_reducible exact kc_n (cp_n (hz_0 hLv nhb nwb nkb f_1_0_0))
  | with_reducible exact cp_a (cp_n (hz_0 hLv nhb nwb nkb f_1_0_0))
  | omega
set_option maxHeartbeats 60000 in
theorem lf_X7_cap_2 {nv0 : Int32} {nv1 : Int32} {nv2 : Int32} {nv3 : Int32} {nv5 : Int32} {nhh : Nat} {nww : Nat} {nkk : Nat} {ng1 : Nat → Int32} {ng2 : Nat → Int32} {ng3 : Nat → Int32} {ng4 : Nat → Int32} {ng5 : Nat → Int32} {q : Nat} {az : Nat} {fb : Nat → Option Nat} {ad : Nat → Nat} {V : Nat → Nat → Int32} (nhb : nhh ≤ 999) (nwb : nww ≤ 6) (nkb : nkk ≤ 6) (hLv : okLv (nrm nv0 nv1 nv2 nv3 nhh nv5 nww nkk ng1 ng2 ng3 ng4 ng5)) (hfb : ∀ i : Nat, i < 24 → fb i = some (ad i)) (hok : ∀ i : Nat, i < 24 → okL (V i)) (hq : q < 24) (haz : az ≤ 24) (f_1_0_0 : ¬ 0 < nv0) : az = kpN (gd_cap (nrm nv0 nv1 nv2 nv3 nhh nv5 nww nkk ng1 ng2 ng3 ng4 ng5)) az := by
  first
  | with_reducible exact cp_l (cp_n (hz_0 hLv nhb nwb nkb f_1_0_0))
  | with_reducible exact kz_n (cp_n (hz_0 hLv nhb nwb nkb f_1_0_0))
  | with_reducible exact kc_n (cp_n (hz_0 hLv nhb nwb nkb f_1_0_0))
  | with_reducible exact cp_a (cp_n (hz_0 hLv nhb nwb nkb f_1_0_0))
  | omega
set_option maxHeartbeats 60000 in
theorem lf_X7_cap_3 {nv0 : Int32} {nv1 : Int32} {nv2 : Int32} {nv3 : Int32} {nv5 : Int32} {nhh : Nat} {nww : Nat} {nkk : Nat} {ng1 : Nat → Int32} {ng2 : Nat → Int32} {ng3 : Nat → Int32} {ng4 : Nat → Int32} {ng5 : Nat → Int32} {q : Nat} {az : Nat} {fb : Nat → Option Nat} {ad : Nat → Nat} {V : Nat → Nat → Int32} {G : Nat → Nat → Nat → Int32} (nhb : nhh ≤ 999) (nwb : nww ≤ 6) (nkb : nkk ≤ 6) (hLv : okLv (nrm nv0 nv1 nv2 nv3 nhh nv5 nww nkk ng1 ng2 ng3 ng4 ng5)) (hfb : ∀ i : Nat, i < 24 → fb i = some (ad i)) (hok : ∀ i : Nat, i < 24 → okL (V i)) (hq : q < 24) (haz : az ≤ 24) (f_1_0_0 : ¬ 0 < nv0) : acX q az V G = kpA (gd_cap (nrm nv0 nv1 nv2 nv3 nhh nv5 nww nkk ng1 ng2 ng3 ng4 ng5)) (nrm nv0 nv1 nv2 nv3 nhh nv5 nww nkk ng1 ng2 ng3 ng4 ng5) az (acX q az V G) := by
  first
  | with_reducible exact cp_l (cp_n (hz_0 hLv nhb nwb nkb f_1_0_0))
  | with_reducible exact kz_n (cp_n (hz_0 hLv nhb nwb nkb f_1_0_0))
  | with_reducible exact kc_n (cp_n (hz_0 hLv nhb nwb nkb f_1_0_0))
  | with_reducible exact cp_a (cp_n (hz_0 hLv nhb nwb nkb f_1_0_0))
  | omega
set_option maxHeartbeats 60000 in
theorem lf_X7_cap_4 {nv0 : Int32} {nv1 : Int32} {nv2 : Int32} {nv3 : Int32} {nv5 : Int32} {nhh : Nat} {nww : Nat} {nkk : Nat} {ng1 : Nat → Int32} {ng2 : Nat → Int32} {ng3 : Nat → Int32} {ng4 : Nat → Int32} {ng5 : Nat → Int32} {q : Nat} {az : Nat} {fb : Nat → Option Nat} {ad : Nat → Nat} {V : Nat → Nat → Int32} (nhb : nhh ≤ 999) (nwb : nww ≤ 6) (nkb : nkk ≤ 6) (hLv : okLv (nrm nv0 nv1 nv2 nv3 nhh nv5 nww nkk ng1 ng2 ng3 ng4 ng5)) (hfb : ∀ i : Nat, i < 24 → fb i = some (ad i)) (hok : ∀ i : Nat, i < 24 → okL (V i)) (hq : q < 24) (haz : az ≤ 24) (f_1_0_0 : ¬ 0 < nv0) : (-1000002) = (a_cap (nrm nv0 nv1 nv2 nv3 nhh nv5 nww nkk ng1 ng2 ng3 ng4 ng5)) := by
  first
  | with_reducible exact cp_l (cp_n (hz_0 hLv nhb nwb nkb f_1_0_0))
  | with_reducible exact kz_n (cp_n (hz_0 hLv nhb nwb nkb f_1_0_0))
  | with_reducible exact kc_n (cp_n (hz_0 hLv nhb nwb nkb f_1_0_0))
  | with_reducible exact cp_a (cp_n (hz_0 hLv nhb nwb nkb f_1_0_0))
  | omega
set_option maxHeartbeats 60000 in
theorem lf_X7_cap_5 {nv0 : Int32} {nv1 : Int32} {nv2 : Int32} {nv3 : Int32} {nv5 : Int32} {nhh : Nat} {nww : Nat} {nkk : Nat} {ng1 : Nat → Int32} {ng2 : Nat → Int32} {ng3 : Nat → Int32} {ng4 : Nat → Int32} {ng5 : Nat → Int32} {q : Nat} {az : Nat} {fb : Nat → Option Nat} {ad : Nat → Nat} {V : Nat → Nat → Int32} {G : Nat → Nat → Nat → Int32} {Vn_4 : Nat → Nat → Int32} {Gn_4 : Nat → Nat → Nat → Int32} {qn_4 : Nat} {zn_4 : Nat} {v3n_5 : Int32} (nhb : nhh ≤ 999) (nwb : nww ≤ 6) (nkb : nkk ≤ 6) (hLv : okLv (nrm nv0 nv1 nv2 nv3 nhh nv5 nww nkk ng1 ng2 ng3 ng4 ng5)) (hfb : ∀ i : Nat, i < 24 → fb i = some (ad i)) (hok : ∀ i : Nat, i < 24 → okL (V i)) (hq : q < 24) (haz : az ≤ 24) (f_1_1_0 : 0 < nv0) (hF_4_0 : (∀ i : Nat, i < 24 → okL (Vn_4 i))) (hF_4_1 : qn_4 < 24) (hF_4_2 : zn_4 ≤ 24) (hF_4_3 : nrV (Vn_4 q) (Gn_4 q) = (nrm nv0 nv1 nv2 nv3 nhh nv5 nww nkk ng1 ng2 ng3 ng4 ng5)) (hF_4_4 : (∀ i : Nat, i < 24 → i ≠ q → nrV (Vn_4 i) (Gn_4 i) = nrV (V i) (G i))) (hF_4_5 : qn_4 = (q + 1) % 24) (hF_4_6 : zn_4 = ntN az) (hF_5_0 : v3n_5 = 1 - nv3) : (nrm nv0 nv1 nv2 v3n_5 nhh nv5 nww nkk ng1 ng2 ng3 ng4 ng5) = n_cap (nrm nv0 nv1 nv2 nv3 nhh nv5 nww nkk ng1 ng2 ng3 ng4 ng5) := by
  first
  | with_reducible exact cp_L (cp_g (hz_1 hLv nhb nwb nkb f_1_1_0)) hF_5_0
  | with_reducible exact kz_p (cp_g (hz_1 hLv nhb nwb nkb f_1_1_0)) hF_4_6
  | with_reducible exact kc_p (cp_g (hz_1 hLv nhb nwb nkb f_1_1_0)) hq haz hF_4_3 hF_4_4 hF_4_5 hF_4_6
  | with_reducible exact cp_A (cp_g (hz_1 hLv nhb nwb nkb f_1_1_0)) hF_5_0
  | omega
set_option maxHeartbeats 60000 in
theorem lf_X7_cap_6 {nv0 : Int32} {nv1 : Int32} {nv2 : Int32} {nv3 : Int32} {nv5 : Int32} {nhh : Nat} {nww : Nat} {nkk : Nat} {ng1 : Nat → Int32} {ng2 : Nat → Int32} {ng3 : Nat → Int32} {ng4 : Nat → Int32} {ng5 : Nat → Int32} {q : Nat} {az : Nat} {fb : Nat → Option Nat} {ad : Nat → Nat} {V : Nat → Nat → Int32} {G : Nat → Nat → Nat → Int32} {Vn_4 : Nat → Nat → Int32} {Gn_4 : Nat → Nat → Nat → Int32} {qn_4 : Nat} {zn_4 : Nat} {v3n_5 : Int32} (nhb : nhh ≤ 999) (nwb : nww ≤ 6) (nkb : nkk ≤ 6) (hLv : okLv (nrm nv0 nv1 nv2 nv3 nhh nv5 nww nkk ng1 ng2 ng3 ng4 ng5)) (hfb : ∀ i : Nat, i < 24 → fb i = some (ad i)) (hok : ∀ i : Nat, i < 24 → okL (V i)) (hq : q < 24) (haz : az ≤ 24) (f_1_1_0 : 0 < nv0) (hF_4_0 : (∀ i : Nat, i < 24 → okL (Vn_4 i))) (hF_4_1 : qn_4 < 24) (hF_4_2 : zn_4 ≤ 24) (hF_4_3 : nrV (Vn_4 q) (Gn_4 q) = (nrm nv0 nv1 nv2 nv3 nhh nv5 nww nkk ng1 ng2 ng3 ng4 ng5)) (hF_4_4 : (∀ i : Nat, i < 24 → i ≠ q → nrV (Vn_4 i) (Gn_4 i) = nrV (V i) (G i))) (hF_4_5 : qn_4 = (q + 1) % 24) (hF_4_6 : zn_4 = ntN az) (hF_5_0 : v3n_5 = 1 - nv3) : zn_4 = kpN (gd_cap (nrm nv0 nv1 nv2 nv3 nhh nv5 nww nkk ng1 ng2 ng3 ng4 ng5)) az := by
  first
  | with_reducible exact cp_L (cp_g (hz_1 hLv nhb nwb nkb f_1_1_0)) hF_5_0
  | with_reducible exact kz_p (cp_g (hz_1 hLv nhb nwb nkb f_1_1_0)) hF_4_6
  | with_reducible exact kc_p (cp_g (hz_1 hLv nhb nwb nkb f_1_1_0)) hq haz hF_4_3 hF_4_4 hF_4_5 hF_4_6
  | with_reducible exact cp_A (cp_g (hz_1 hLv nhb nwb nkb f_1_1_0)) hF_5_0
  | omega
set_option maxHeartbeats 60000 in
theorem lf_X7_cap_7 {nv0 : Int32} {nv1 : Int32} {nv2 : Int32} {nv3 : Int32} {nv5 : Int32} {nhh : Nat} {nww : Nat} {nkk : Nat} {ng1 : Nat → Int32} {ng2 : Nat → Int32} {ng3 : Nat → Int32} {ng4 : Nat → Int32} {ng5 : Nat → Int32} {q : Nat} {az : Nat} {fb : Nat → Option Nat} {ad : Nat → Nat} {V : Nat → Nat → Int32} {G : Nat → Nat → Nat → Int32} {Vn_4 : Nat → Nat → Int32} {Gn_4 : Nat → Nat → Nat → Int32} {qn_4 : Nat} {zn_4 : Nat} {v3n_5 : Int32} (nhb : nhh ≤ 999) (nwb : nww ≤ 6) (nkb : nkk ≤ 6) (hLv : okLv (nrm nv0 nv1 nv2 nv3 nhh nv5 nww nkk ng1 ng2 ng3 ng4 ng5)) (hfb : ∀ i : Nat, i < 24 → fb i = some (ad i)) (hok : ∀ i : Nat, i < 24 → okL (V i)) (hq : q < 24) (haz : az ≤ 24) (f_1_1_0 : 0 < nv0) (hF_4_0 : (∀ i : Nat, i < 24 → okL (Vn_4 i))) (hF_4_1 : qn_4 < 24) (hF_4_2 : zn_4 ≤ 24) (hF_4_3 : nrV (Vn_4 q) (Gn_4 q) = (nrm nv0 nv1 nv2 nv3 nhh nv5 nww nkk ng1 ng2 ng3 ng4 ng5)) (hF_4_4 : (∀ i : Nat, i < 24 → i ≠ q → nrV (Vn_4 i) (Gn_4 i) = nrV (V i) (G i))) (hF_4_5 : qn_4 = (q + 1) % 24) (hF_4_6 : zn_4 = ntN az) (hF_5_0 : v3n_5 = 1 - nv3) : acX qn_4 zn_4 Vn_4 Gn_4 = kpA (gd_cap (nrm nv0 nv1 nv2 nv3 nhh nv5 nww nkk ng1 ng2 ng3 ng4 ng5)) (nrm nv0 nv1 nv2 nv3 nhh nv5 nww nkk ng1 ng2 ng3 ng4 ng5) az (acX q az V G) := by
  first
  | with_reducible exact cp_L (cp_g (hz_1 hLv nhb nwb nkb f_1_1_0)) hF_5_0
  | with_reducible exact kz_p (cp_g (hz_1 hLv nhb nwb nkb f_1_1_0)) hF_4_6
  | with_reducible exact kc_p (cp_g (hz_1 hLv nhb nwb nkb f_1_1_0)) hq haz hF_4_3 hF_4_4 hF_4_5 hF_4_6
  | with_reducible exact cp_A (cp_g (hz_1 hLv nhb nwb nkb f_1_1_0)) hF_5_0
  | omega
set_option maxHeartbeats 60000 in
theorem lf_X7_cap_8 {nv0 : Int32} {nv1 : Int32} {nv2 : Int32} {nv3 : Int32} {nv5 : Int32} {nhh : Nat} {nww : Nat} {nkk : Nat} {ng1 : Nat → Int32} {ng2 : Nat → Int32} {ng3 : Nat → Int32} {ng4 : Nat → Int32} {ng5 : Nat → Int32} {q : Nat} {az : Nat} {fb : Nat → Option Nat} {ad : Nat → Nat} {V : Nat → Nat → Int32} {G : Nat → Nat → Nat → Int32} {Vn_4 : Nat → Nat → Int32} {Gn_4 : Nat → Nat → Nat → Int32} {qn_4 : Nat} {zn_4 : Nat} {v3n_5 : Int32} (nhb : nhh ≤ 999) (nwb : nww ≤ 6) (nkb : nkk ≤ 6) (hLv : okLv (nrm nv0 nv1 nv2 nv3 nhh nv5 nww nkk ng1 ng2 ng3 ng4 ng5)) (hfb : ∀ i : Nat, i < 24 → fb i = some (ad i)) (hok : ∀ i : Nat, i < 24 → okL (V i)) (hq : q < 24) (haz : az ≤ 24) (f_1_1_0 : 0 < nv0) (hF_4_0 : (∀ i : Nat, i < 24 → okL (Vn_4 i))) (hF_4_1 : qn_4 < 24) (hF_4_2 : zn_4 ≤ 24) (hF_4_3 : nrV (Vn_4 q) (Gn_4 q) = (nrm nv0 nv1 nv2 nv3 nhh nv5 nww nkk ng1 ng2 ng3 ng4 ng5)) (hF_4_4 : (∀ i : Nat, i < 24 → i ≠ q → nrV (Vn_4 i) (Gn_4 i) = nrV (V i) (G i))) (hF_4_5 : qn_4 = (q + 1) % 24) (hF_4_6 : zn_4 = ntN az) (hF_5_0 : v3n_5 = 1 - nv3) : v3n_5 = (a_cap (nrm nv0 nv1 nv2 nv3 nhh nv5 nww nkk ng1 ng2 ng3 ng4 ng5)) := by
  first
  | with_reducible exact cp_L (cp_g (hz_1 hLv nhb nwb nkb f_1_1_0)) hF_5_0
  | with_reducible exact kz_p (cp_g (hz_1 hLv nhb nwb nkb f_1_1_0)) hF_4_6
  | with_reducible exact kc_p (cp_g (hz_1 hLv nhb nwb nkb f_1_1_0)) hq haz hF_4_3 hF_4_4 hF_4_5 hF_4_6
  | with_reducible exact cp_A (cp_g (hz_1 hLv nhb nwb nkb f_1_1_0)) hF_5_0
  | omega
set_option maxHeartbeats 4000000 in
set_option maxRecDepth 100000 in
theorem r_X7_cap (l : Launch) (dC : Nat → ClassId) (dI : Nat → Nat → Nat) (cI cZ cL cJ : ClassId) (sz : Nat) (x : Nat) (ro : Nat) (ta : Nat) (no : Nat) (ac : Nat) (im : Nat) (tr : Nat) (pl : Nat) (cs : Nat) (ak : Nat) (xf : Int32) (xg : Int32) (nv0 : Int32) (nv1 : Int32) (nv2 : Int32) (nv3 : Int32) (nv5 : Int32) (nhh : Nat) (nww : Nat) (nkk : Nat) (nb1 : Nat) (nb2 : Nat) (nb3 : Nat) (nb4 : Nat) (nb5 : Nat) (ng1 : Nat → Int32) (ng2 : Nat → Int32) (ng3 : Nat → Int32) (ng4 : Nat → Int32) (ng5 : Nat → Int32) (be : Nat) (q : Nat) (az : Nat) (fb : Nat → Option Nat) (ad : Nat → Nat) (bd : Nat → Nat → Nat) (V : Nat → Nat → Int32) (G : Nat → Nat → Nat → Int32) (nhb : nhh ≤ 999) (nwb : nww ≤ 6) (nkb : nkk ≤ 6) (hLv : okLv (nrm nv0 nv1 nv2 nv3 nhh nv5 nww nkk ng1 ng2 ng3 ng4 ng5)) (hfb : ∀ i : Nat, i < 24 → fb i = some (ad i)) (hok : ∀ i : Nat, i < 24 → okL (V i)) (hq : q < 24) (haz : az ≤ 24) : Met l yX7_cap wsX7_cap ({ frames := 3, cells := 0, slots := 0, locals := 122 }) (va_Pc [.ref x] (fun U => U.heap.size = sz ∧ va_P (dC, dI) vwCl (([(xo_7_rrrrrrrrrii x ro ta no ac im tr pl cs ak xf xg), (xo_3_iiiiiiiirrrrr no nv0 nv1 nv2 nv3 (nI nhh) nv5 (nI nww) (nI nkk) nb1 nb2 nb3 nb4 nb5), (xI nb1 cI 6 ng1), (xI nb2 cI 6 ng2), (xI nb3 cI 6 ng3), (xI nb4 cI 6 ng4), (xI nb5 cI 6 ng5), (xo_0_rii ac be (nI q) (nI az)), (xJ be cL 24 fb)] : va_W) ++ lvs cI 24 ad bd V G) U.heap ∧ va_K (dC, dI) vwCl [(cI, .int), (cZ, .boolean), (cL, .object RX3), (cJ, .array .int)] U ∧ va_D (fun _ => True) (([(xo_7_rrrrrrrrrii x ro ta no ac im tr pl cs ak xf xg), (xo_3_iiiiiiiirrrrr no nv0 nv1 nv2 nv3 (nI nhh) nv5 (nI nww) (nI nkk) nb1 nb2 nb3 nb4 nb5), (xI nb1 cI 6 ng1), (xI nb2 cI 6 ng2), (xI nb3 cI 6 ng3), (xI nb4 cI 6 ng4), (xI nb5 cI 6 ng5), (xo_0_rii ac be (nI q) (nI az)), (xJ be cL 24 fb)] : va_W) ++ lvs cI 24 ad bd V G))) (va_Qi (fun r (_ : Unit) => r = (a_cap (nrm nv0 nv1 nv2 nv3 nhh nv5 nww nkk ng1 ng2 ng3 ng4 ng5))) (fun (_ : Unit) t => ∃ (Vn : Nat → Nat → Int32) (Gn : Nat → Nat → Nat → Int32) (nv0n : Int32) (nv1n : Int32) (nv2n : Int32) (nv3n : Int32) (nv5n : Int32) (ng1n : Nat → Int32) (ng2n : Nat → Int32) (ng3n : Nat → Int32) (ng4n : Nat → Int32) (ng5n : Nat → Int32) (nhn : Nat) (nwn : Nat) (nkn : Nat) (qn : Nat) (azn : Nat), va_P (dC, dI) vwCl (([(xo_7_rrrrrrrrrii x ro ta no ac im tr pl cs ak xf xg), (xo_3_iiiiiiiirrrrr no nv0n nv1n nv2n nv3n (nI nhn) nv5n (nI nwn) (nI nkn) nb1 nb2 nb3 nb4 nb5), (xI nb1 cI 6 ng1n), (xI nb2 cI 6 ng2n), (xI nb3 cI 6 ng3n), (xI nb4 cI 6 ng4n), (xI nb5 cI 6 ng5n), (xo_0_rii ac be (nI qn) (nI azn)), (xJ be cL 24 fb)] : va_W) ++ lvs cI 24 ad bd Vn Gn) t.heap ∧ va_D (va_A (([(xo_7_rrrrrrrrrii x ro ta no ac im tr pl cs ak xf xg), (xo_3_iiiiiiiirrrrr no nv0 nv1 nv2 nv3 (nI nhh) nv5 (nI nww) (nI nkk) nb1 nb2 nb3 nb4 nb5), (xI nb1 cI 6 ng1), (xI nb2 cI 6 ng2), (xI nb3 cI 6 ng3), (xI nb4 cI 6 ng4), (xI nb5 cI 6 ng5), (xo_0_rii ac be (nI q) (nI az)), (xJ be cL 24 fb)] : va_W) ++ lvs cI 24 ad bd V G) sz) (([(xo_7_rrrrrrrrrii x ro ta no ac im tr pl cs ak xf xg), (xo_3_iiiiiiiirrrrr no nv0n nv1n nv2n nv3n (nI nhn) nv5n (nI nwn) (nI nkn) nb1 nb2 nb3 nb4 nb5), (xI nb1 cI 6 ng1n), (xI nb2 cI 6 ng2n), (xI nb3 cI 6 ng3n), (xI nb4 cI 6 ng4n), (xI nb5 cI 6 ng5n), (xo_0_rii ac be (nI qn) (nI azn)), (xJ be cL 24 fb)] : va_W) ++ lvs cI 24 ad bd Vn Gn) ∧ (∀ i : Nat, i < 24 → okL (Vn i)) ∧ qn < 24 ∧ azn ≤ 24 ∧ nhn ≤ 999 ∧ nwn ≤ 6 ∧ nkn ≤ 6 ∧ (nrm nv0n nv1n nv2n nv3n nhn nv5n nwn nkn ng1n ng2n ng3n ng4n ng5n) = n_cap (nrm nv0 nv1 nv2 nv3 nhh nv5 nww nkk ng1 ng2 ng3 ng4 ng5) ∧ azn = kpN (gd_cap (nrm nv0 nv1 nv2 nv3 nhh nv5 nww nkk ng1 ng2 ng3 ng4 ng5)) az ∧ acX qn azn Vn Gn = kpA (gd_cap (nrm nv0 nv1 nv2 nv3 nhh nv5 nww nkk ng1 ng2 ng3 ng4 ng5)) (nrm nv0 nv1 nv2 nv3 nhh nv5 nww nkk ng1 ng2 ng3 ng4 ng5) az (acX q az V G)) (va_A (([(xo_7_rrrrrrrrrii x ro ta no ac im tr pl cs ak xf xg), (xo_3_iiiiiiiirrrrr no nv0 nv1 nv2 nv3 (nI nhh) nv5 (nI nww) (nI nkk) nb1 nb2 nb3 nb4 nb5), (xI nb1 cI 6 ng1), (xI nb2 cI 6 ng2), (xI nb3 cI 6 ng3), (xI nb4 cI 6 ng4), (xI nb5 cI 6 ng5), (xo_0_rii ac be (nI q) (nI az)), (xJ be cL 24 fb)] : va_W) ++ lvs cI 24 ad bd V G) sz)) 0 0 (va_A (([(xo_7_rrrrrrrrrii x ro ta no ac im tr pl cs ak xf xg), (xo_3_iiiiiiiirrrrr no nv0 nv1 nv2 nv3 (nI nhh) nv5 (nI nww) (nI nkk) nb1 nb2 nb3 nb4 nb5), (xI nb1 cI 6 ng1), (xI nb2 cI 6 ng2), (xI nb3 cI 6 ng3), (xI nb4 cI 6 ng4), (xI nb5 cI 6 ng5), (xo_0_rii ac be (nI q) (nI az)), (xJ be cL 24 fb)] : va_W) ++ lvs cI 24 ad bd V G) sz) := by
  refine Met.ofW (cc := cX7_cap) (maxL := 1) (ret := (some .int)) (by decide) rfl ?_
  intro p e s m args below meth c s₁ B hml hv
  obtain ⟨rfl, hsz, hP, hK, hD0⟩ := hv
  have hx := B.exec
  have hb := B.bytes
  have hr := B.returns
  have hts := atoms_spec (ws := wsX7_cap) B.pre
  have hown : s.vm.findClass RX7 = some m.cls := findClass_of_methodNamed B.named
  have hlocks := B.notSynchronized
  subst hsz
  have hD := hD0.self (sz := s.heap.size)
  generalize hAe : va_A (([(xo_7_rrrrrrrrrii x ro ta no ac im tr pl cs ak xf xg), (xo_3_iiiiiiiirrrrr no nv0 nv1 nv2 nv3 (nI nhh) nv5 (nI nww) (nI nkk) nb1 nb2 nb3 nb4 nb5), (xI nb1 cI 6 ng1), (xI nb2 cI 6 ng2), (xI nb3 cI 6 ng3), (xI nb4 cI 6 ng4), (xI nb5 cI 6 ng5), (xo_0_rii ac be (nI q) (nI az)), (xJ be cL 24 fb)] : va_W) ++ lvs cI 24 ad bd V G) s.heap.size = A at hD ⊢
  have hA : ∀ q : Nat, s.heap.size ≤ q → A q := fun q h => by rw [← hAe]; exact Or.inr h
  have hS : va_S A s.heap s.heap [] := va_S.rf
  have hP : va_P (dC, dI) vwCl (([(xo_7_rrrrrrrrrii x ro ta no ac im tr pl cs ak xf xg), (xo_3_iiiiiiiirrrrr no nv0 nv1 nv2 nv3 (nI nhh) nv5 (nI nww) (nI nkk) nb1 nb2 nb3 nb4 nb5), (xI nb1 cI 6 ng1), (xI nb2 cI 6 ng2), (xI nb3 cI 6 ng3), (xI nb4 cI 6 ng4), (xI nb5 cI 6 ng5), (xo_0_rii ac be (nI q) (nI az)), (xJ be cL 24 fb)] : va_W) ++ lvs cI 24 ad bd V G) s.heap := hP
  have hl := lv_entry ([.ref x]) (n := 1) (Nat.le_of_ble_eq_true rfl)
  rw [lg_entry_eq]
  generalize (lg_sl ([.ref x]) ++ List.replicate (1 - (lg_sl ([.ref x])).length) Slot.unset).toArray = ls at hl ⊢
  have hl : lv_has ls 1 [(0, .ref x)] := hl
  refine lv_aload_n hx hb dX7_cap_0 rfl (lv_at hl 0 rfl) ?_
  refine va_get (D := (dC, dI)) (ci := 7) (v := .ref no) (C := RX7) (T := TX7) (N := 11) hx hb hts i_X7_cap_X7 hown hK hP 0 rfl rfl 2 (by decide) (hts _ mx_X7_cap_1) (fun _ h9 => h9) rfl dX7_cap_1 ?_
  have hPc_1 := hP.sub (ws' := [(xo_3_iiiiiiiirrrrr no nv0 nv1 nv2 nv3 (nI nhh) nv5 (nI nww) (nI nkk) nb1 nb2 nb3 nb4 nb5), (xI nb1 cI 6 ng1), (xI nb2 cI 6 ng2), (xI nb3 cI 6 ng3), (xI nb4 cI 6 ng4), (xI nb5 cI 6 ng5)]) [1, 2, 3, 4, 5, 6] rfl
  refine vp_callSi (W.runV (As := []) (rest := []) ⟨hx, hb, hml, hown, hts⟩ (r_X3_isTold l dC dI cI cZ cL cJ no nv0 nv1 nv2 nv3 nv5 nhh nww nkk nb1 nb2 nb3 nb4 nb5 ng1 ng2 ng3 ng4 ng5 (by omega) (by omega) (by omega)) (cwV 0 hts gX7_cap_X3_isTold rfl rfl rfl (by decide +kernel) ⟨Nat.le_of_ble_eq_true rfl, Nat.le_of_ble_eq_true rfl⟩) (pvP 3 1 hK hP rfl rfl hPc_1) rfl rfl hl.1 rfl (lv_room (Nat.le_of_ble_eq_true rfl)) dX7_cap_4 ⟨Nat.le_of_ble_eq_true rfl, Nat.le_of_ble_eq_true rfl⟩) (fun r_1 h_1 => ?_)
  rcases h_1 with ⟨h_1, f_1_0_0⟩ | ⟨h_1, f_1_1_0⟩
  · subst h_1
    refine lv_if_ne (tgt := 13) hx hb dX7_cap_7 (by decide) (fun c_ => absurd (by decide) c_) (fun _ => ?_)
    refine lv_ldc (own := RX7) (v := (-1000002)) hx hb hown (hts _ mx_X7_cap_2) dX7_cap_10 ?_
    have hX9 := cut2P (cx := [(xo_7_rrrrrrrrrii x ro ta no ac im tr pl cs ak xf xg), (xo_3_iiiiiiiirrrrr no nv0 nv1 nv2 nv3 (nI nhh) nv5 (nI nww) (nI nkk) nb1 nb2 nb3 nb4 nb5), (xI nb1 cI 6 ng1), (xI nb2 cI 6 ng2), (xI nb3 cI 6 ng3), (xI nb4 cI 6 ng4), (xI nb5 cI 6 ng5), (xo_0_rii ac be (nI q) (nI az)), (xJ be cL 24 fb)]) hP hD [0, 1, 2, 3, 4, 5, 6, 7, 8] (by decide +kernel) rfl
    exact W.iret (v := (-1000002)) hx hb hr (fun t ht hW => ⟨⟨(-1000002), (), rfl, (lf_X7_cap_4 nhb nwb nkb hLv hfb hok hq haz f_1_0_0), ⟨V, G, nv0, nv1, nv2, nv3, nv5, ng1, ng2, ng3, ng4, ng5, nhh, nww, nkk, q, az, va_Ht ht hX9.1, hX9.2, hok, (by omega), (by omega), (by omega), (by omega), (by omega), (lf_X7_cap_1 nhb nwb nkb hLv hfb hok hq haz f_1_0_0), (lf_X7_cap_2 nhb nwb nkb hLv hfb hok hq haz f_1_0_0), (lf_X7_cap_3 nhb nwb nkb hLv hfb hok hq haz f_1_0_0)⟩⟩, hS.F ht⟩) hS.2.2 dX7_cap_12
  · subst h_1
    refine lv_if_ne (tgt := 13) hx hb dX7_cap_7 (by decide) (fun _ => ?_) (fun c_ => absurd c_ (by decide))
    refine lv_aload_n hx hb dX7_cap_13 rfl (lv_at hl 0 rfl) ?_
    refine va_get (D := (dC, dI)) (ci := 7) (v := .ref ac) (C := RX7) (T := TX7) (N := 11) hx hb hts i_X7_cap_X7 hown hK hP 0 rfl rfl 3 (by decide) (hts _ mx_X7_cap_3) (fun _ h9 => h9) rfl dX7_cap_14 ?_
    refine lv_aload_n hx hb dX7_cap_17 rfl (lv_at hl 0 rfl) ?_
    refine va_get (D := (dC, dI)) (ci := 7) (v := .ref no) (C := RX7) (T := TX7) (N := 11) hx hb hts i_X7_cap_X7 hown hK hP 0 rfl rfl 2 (by decide) (hts _ mx_X7_cap_1) (fun _ h9 => h9) rfl dX7_cap_18 ?_
    have hc_4 := cutP (cx := [(xo_0_rii ac be (nI q) (nI az)), (xJ be cL 24 fb), (xo_3_iiiiiiiirrrrr no nv0 nv1 nv2 nv3 (nI nhh) nv5 (nI nww) (nI nkk) nb1 nb2 nb3 nb4 nb5), (xI nb1 cI 6 ng1), (xI nb2 cI 6 ng2), (xI nb3 cI 6 ng3), (xI nb4 cI 6 ng4), (xI nb5 cI 6 ng5)]) hP hD hS hA [7, 8, 1, 2, 3, 4, 5, 6] (by decide +kernel) rfl
    refine va_callv (va_runV (As := [.ref no]) (rest := []) ⟨hx, hb, hml, hown, hts⟩ (r_X0_keep l dC dI cI cZ cL cJ s.heap.size ac be q az fb ad bd V G no nv0 nv1 nv2 nv3 nv5 nhh nww nkk nb1 nb2 nb3 nb4 nb5 ng1 ng2 ng3 ng4 ng5 (hfb) (hok) (by omega) (by omega) (by omega) (by omega) (by omega)) (cwV 1 hts gX7_cap_X0_keep rfl rfl rfl (by decide +kernel) ⟨Nat.le_of_ble_eq_true rfl, Nat.le_of_ble_eq_true rfl⟩) (pvW 0 7 hK hP rfl rfl hc_4) rfl rfl hl.1 rfl (lv_room (Nat.le_of_ble_eq_true rfl)) dX7_cap_21 ⟨Nat.le_of_ble_eq_true rfl, Nat.le_of_ble_eq_true rfl⟩) hS (fun q _ h => hc_4.2.2 q h) hc_4.2.2 (fun u_4 t_4 H1 locs ht hvm h_4 hB hz1 hk1 hS => ?_)
    refine xl_4_9 hB (fun Vn_4 Gn_4 qn_4 zn_4 hP1 hD1 hF_4_0 hF_4_1 hF_4_2 hF_4_3 hF_4_4 hF_4_5 hF_4_6 => ?_)
    clear hB
    rw [ht] at hP1
    obtain ⟨hP, hD⟩ := va_joinP (wr := [(xo_7_rrrrrrrrrii x ro ta no ac im tr pl cs ak xf xg)]) (rx := [(xo_0_rii ac be (nI qn_4) (nI zn_4)), (xJ be cL 24 fb), (xo_3_iiiiiiiirrrrr no nv0 nv1 nv2 nv3 (nI nhh) nv5 (nI nww) (nI nkk) nb1 nb2 nb3 nb4 nb5), (xI nb1 cI 6 ng1), (xI nb2 cI 6 ng2), (xI nb3 cI 6 ng3), (xI nb4 cI 6 ng4), (xI nb5 cI 6 ng5)]) (pl1 := lvs cI 24 ad bd Vn_4 Gn_4) hP hD [7, 8, 1, 2, 3, 4, 5, 6] [0] rfl rfl (by decide +kernel) (by decide +kernel) hk1 hc_4.2.2 hP1 hD1
    generalize H1 = H at hP hS ⊢
    have hP : va_P (dC, dI) vwCl (([(xo_7_rrrrrrrrrii x ro ta no ac im tr pl cs ak xf xg), (xo_0_rii ac be (nI qn_4) (nI zn_4)), (xJ be cL 24 fb), (xo_3_iiiiiiiirrrrr no nv0 nv1 nv2 nv3 (nI nhh) nv5 (nI nww) (nI nkk) nb1 nb2 nb3 nb4 nb5), (xI nb1 cI 6 ng1), (xI nb2 cI 6 ng2), (xI nb3 cI 6 ng3), (xI nb4 cI 6 ng4), (xI nb5 cI 6 ng5)] : va_W) ++ lvs cI 24 ad bd Vn_4 Gn_4) H := hP
    have hD := dto hP hD
    refine lv_aload_n hx hb dX7_cap_24 rfl (lv_at hl 0 rfl) ?_
    refine va_get (D := (dC, dI)) (ci := 7) (v := .ref no) (C := RX7) (T := TX7) (N := 11) hx hb hts i_X7_cap_X7 hown hK hP 0 rfl rfl 2 (by decide) (hts _ mx_X7_cap_1) (fun _ h9 => h9) rfl dX7_cap_25 ?_
    have hc_5 := cutX (wc := [(xo_3_iiiiiiiirrrrr no nv0 nv1 nv2 nv3 (nI nhh) nv5 (nI nww) (nI nkk) nb1 nb2 nb3 nb4 nb5), (xI nb1 cI 6 ng1), (xI nb2 cI 6 ng2), (xI nb3 cI 6 ng3), (xI nb4 cI 6 ng4), (xI nb5 cI 6 ng5)]) hP hD hS hA [3, 4, 5, 6, 7, 8] (by decide +kernel) rfl
    refine va_callv (va_runV (As := []) (rest := []) ⟨hx, hb, hml, hown, hts⟩ (r_X3_turnCap l dC dI cI cZ cL cJ H.size no nv0 nv1 nv2 nv3 nv5 nhh nww nkk nb1 nb2 nb3 nb4 nb5 ng1 ng2 ng3 ng4 ng5 (by omega) (by omega) (by omega)) (cwV 0 hts gX7_cap_X3_turnCap rfl rfl rfl (by decide +kernel) ⟨Nat.le_of_ble_eq_true rfl, Nat.le_of_ble_eq_true rfl⟩) (pvW 3 3 hK hP rfl rfl hc_5) rfl rfl hl.1 rfl (lv_room (Nat.le_of_ble_eq_true rfl)) dX7_cap_28 ⟨Nat.le_of_ble_eq_true rfl, Nat.le_of_ble_eq_true rfl⟩) hS (fun q _ h => hc_5.2.2 q h) hc_5.2.2 (fun u_5 t_5 H1 locs ht hvm h_5 hB hz1 hk1 hS => ?_)
    refine xl_1_3 hB (fun v3n_5 hP1 hD1 hF_5_0 => ?_)
    clear hB
    rw [ht] at hP1
    obtain ⟨hP, hD⟩ := va_joinQ (wr := [(xo_7_rrrrrrrrrii x ro ta no ac im tr pl cs ak xf xg), (xo_0_rii ac be (nI qn_4) (nI zn_4)), (xJ be cL 24 fb)]) (w1 := [(xo_3_iiiiiiiirrrrr no nv0 nv1 nv2 v3n_5 (nI nhh) nv5 (nI nww) (nI nkk) nb1 nb2 nb3 nb4 nb5), (xI nb1 cI 6 ng1), (xI nb2 cI 6 ng2), (xI nb3 cI 6 ng3), (xI nb4 cI 6 ng4), (xI nb5 cI 6 ng5)]) hP hD [3, 4, 5, 6, 7, 8] [0, 1, 2] rfl rfl (by decide +kernel) (by decide +kernel) hk1 hc_5.2.2 hP1 hD1
    generalize H1 = H at hP hS ⊢
    have hP : va_P (dC, dI) vwCl (([(xo_7_rrrrrrrrrii x ro ta no ac im tr pl cs ak xf xg), (xo_0_rii ac be (nI qn_4) (nI zn_4)), (xJ be cL 24 fb), (xo_3_iiiiiiiirrrrr no nv0 nv1 nv2 v3n_5 (nI nhh) nv5 (nI nww) (nI nkk) nb1 nb2 nb3 nb4 nb5), (xI nb1 cI 6 ng1), (xI nb2 cI 6 ng2), (xI nb3 cI 6 ng3), (xI nb4 cI 6 ng4), (xI nb5 cI 6 ng5)] : va_W) ++ lvs cI 24 ad bd Vn_4 Gn_4) H := hP
    have hD := dto hP hD
    refine lv_aload_n hx hb dX7_cap_31 rfl (lv_at hl 0 rfl) ?_
    refine va_get (D := (dC, dI)) (ci := 7) (v := .ref no) (C := RX7) (T := TX7) (N := 11) hx hb hts i_X7_cap_X7 hown hK hP 0 rfl rfl 2 (by decide) (hts _ mx_X7_cap_1) (fun _ h9 => h9) rfl dX7_cap_32 ?_
    refine va_get (D := (dC, dI)) (ci := 3) (v := .int v3n_5) (C := RX3) (T := TX3) (N := 13) hx hb hts i_X7_cap_X3 hown hK hP 3 rfl rfl 3 (by decide) (hts _ mx_X7_cap_4) (fun _ h9 => h9) rfl dX7_cap_35 ?_
    have hX9 := cut2P (cx := [(xo_7_rrrrrrrrrii x ro ta no ac im tr pl cs ak xf xg), (xo_3_iiiiiiiirrrrr no nv0 nv1 nv2 v3n_5 (nI nhh) nv5 (nI nww) (nI nkk) nb1 nb2 nb3 nb4 nb5), (xI nb1 cI 6 ng1), (xI nb2 cI 6 ng2), (xI nb3 cI 6 ng3), (xI nb4 cI 6 ng4), (xI nb5 cI 6 ng5), (xo_0_rii ac be (nI qn_4) (nI zn_4)), (xJ be cL 24 fb)]) hP hD [0, 3, 4, 5, 6, 7, 8, 1, 2] (by decide +kernel) rfl
    exact W.iret (v := v3n_5) hx hb hr (fun t ht hW => ⟨⟨v3n_5, (), rfl, (lf_X7_cap_8 nhb nwb nkb hLv hfb hok hq haz f_1_1_0 hF_4_0 hF_4_1 hF_4_2 hF_4_3 hF_4_4 hF_4_5 hF_4_6 hF_5_0), ⟨Vn_4, Gn_4, nv0, nv1, nv2, v3n_5, nv5, ng1, ng2, ng3, ng4, ng5, nhh, nww, nkk, qn_4, zn_4, va_Ht ht hX9.1, hX9.2, hF_4_0, (by omega), (by omega), (by omega), (by omega), (by omega), (lf_X7_cap_5 nhb nwb nkb hLv hfb hok hq haz f_1_1_0 hF_4_0 hF_4_1 hF_4_2 hF_4_3 hF_4_4 hF_4_5 hF_4_6 hF_5_0), (lf_X7_cap_6 nhb nwb nkb hLv hfb hok hq haz f_1_1_0 hF_4_0 hF_4_1 hF_4_2 hF_4_3 hF_4_4 hF_4_5 hF_4_6 hF_5_0), (lf_X7_cap_7 nhb nwb nkb hLv hfb hok hq haz f_1_1_0 hF_4_0 hF_4_1 hF_4_2 hF_4_3 hF_4_4 hF_4_5 hF_4_6 hF_5_0)⟩⟩, hS.F ht⟩) hS.2.2 dX7_cap_38
set_option maxHeartbeats 60000 in
theorem lf_X7_wind_1 {nv0 : Int32} {nv1 : Int32} {nv2 : Int32} {nv3 : Int32} {nv5 : Int32} {nhh : Nat} {nww : Nat} {nkk : Nat} {ng1 : Nat → Int32} {ng2 : Nat → Int32} {ng3 : Nat → Int32} {ng4 : Nat → Int32} {ng5 : Nat → Int32} {q : Nat} {az : Nat} {fb : Nat → Option Nat} {ad : Nat → Nat} {V : Nat → Nat → Int32} {k0 : Int32} {k1 : Int32} (nhb : nhh ≤ 999) (nwb : nww ≤ 6) (nkb : nkk ≤ 6) (hLv : okLv (nrm nv0 nv1 nv2 nv3 nhh nv5 nww nkk ng1 ng2 ng3 ng4 ng5)) (hfb : ∀ i : Nat, i < 24 → fb i = some (ad i)) (hok : ∀ i : Nat, i < 24 → okL (V i)) (hq : q < 24) (haz : az ≤ 24) (f_1_0_0 : (k0 < 0 ∨ (nI nww) ≤ k0)) : (nrm nv0 nv1 nv2 nv3 nhh nv5 nww nkk ng1 ng2 ng3 ng4 ng5) = n_wind (nrm nv0 nv1 nv2 nv3 nhh nv5 nww nkk ng1 ng2 ng3 ng4 ng5) k0 k1 := by
  first
  | with_reducible exact wi_l (wi_g1 f_1_0_0)
  | with_reducible exact kz_n (wi_g1 f_1_0_0)
  | with_reducible exact kc_n (wi_g1 f_1_0_0)
  | with_reducible exact wi_a (wi_g1 f_1_0_0)
  | omega
set_option maxHeartbeats 60000 in
theorem lf_X7_wind_2 {nv0 : Int32} {nv1 : Int32} {nv2 : Int32} {nv3 : Int32} {nv5 : Int32} {nhh : Nat} {nww : Nat} {nkk : Nat} {ng1 : Nat → Int32} {ng2 : Nat → Int32} {ng3 : Nat → Int32} {ng4 : Nat → Int32} {ng5 : Nat → Int32} {q : Nat} {az : Nat} {fb : Nat → Option Nat} {ad : Nat → Nat} {V : Nat → Nat → Int32} {k0 : Int32} {k1 : Int32} (nhb : nhh ≤ 999) (nwb : nww ≤ 6) (nkb : nkk ≤ 6) (hLv : okLv (nrm nv0 nv1 nv2 nv3 nhh nv5 nww nkk ng1 ng2 ng3 ng4 ng5)) (hfb : ∀ i : Nat, i < 24 → fb i = some (ad i)) (hok : ∀ i : Nat, i < 24 → okL (V i)) (hq : q < 24) (haz : az ≤ 24) (f_1_0_0 : (k0 < 0 ∨ (nI nww) ≤ k0)) : az = kpN (gd_wind (nrm nv0 nv1 nv2 nv3 nhh nv5 nww nkk ng1 ng2 ng3 ng4 ng5) k0 k1) az := by
  first
  | with_reducible exact wi_l (wi_g1 f_1_0_0)
  | with_reducible exact kz_n (wi_g1 f_1_0_0)
  | with_reducible exact kc_n (wi_g1 f_1_0_0)
  | with_reducible exact wi_a (wi_g1 f_1_0_0)
  | omega
set_option maxHeartbeats 60000 in
theorem lf_X7_wind_3 {nv0 : Int32} {nv1 : Int32} {nv2 : Int32} {nv3 : Int32} {nv5 : Int32} {nhh : Nat} {nww : Nat} {nkk : Nat} {ng1 : Nat → Int32} {ng2 : Nat → Int32} {ng3 : Nat → Int32} {ng4 : Nat → Int32} {ng5 : Nat → Int32} {q : Nat} {az : Nat} {fb : Nat → Option Nat} {ad : Nat → Nat} {V : Nat → Nat → Int32} {G : Nat → Nat → Nat → Int32} {k0 : Int32} {k1 : Int32} (nhb : nhh ≤ 999) (nwb : nww ≤ 6) (nkb : nkk ≤ 6) (hLv : okLv (nrm nv0 nv1 nv2 nv3 nhh nv5 nww nkk ng1 ng2 ng3 ng4 ng5)) (hfb : ∀ i : Nat, i < 24 → fb i = some (ad i)) (hok : ∀ i : Nat, i < 24 → okL (V i)) (hq : q < 24) (haz : az ≤ 24) (f_1_0_0 : (k0 < 0 ∨ (nI nww) ≤ k0)) : acX q az V G = kpA (gd_wind (nrm nv0 nv1 nv2 nv3 nhh nv5 nww nkk ng1 ng2 ng3 ng4 ng5) k0 k1) (nrm nv0 nv1 nv2 nv3 nhh nv5 nww nkk ng1 ng2 ng3 ng4 ng5) az (acX q az V G) := by
  first
  | with_reducible exact wi_l (wi_g1 f_1_0_0)
  | with_reducible exact kz_n (wi_g1 f_1_0_0)
  | with_reducible exact kc_n (wi_g1 f_1_0_0)
  | with_reducible exact wi_a (wi_g1 f_1_0_0)
  | omega
set_option maxHeartbeats 60000 in
theorem lf_X7_wind_4 {nv0 : Int32} {nv1 : Int32} {nv2 : Int32} {nv3 : Int32} {nv5 : Int32} {nhh : Nat} {nww : Nat} {nkk : Nat} {ng1 : Nat → Int32} {ng2 : Nat → Int32} {ng3 : Nat → Int32} {ng4 : Nat → Int32} {ng5 : Nat → Int32} {q : Nat} {az : Nat} {fb : Nat → Option Nat} {ad : Nat → Nat} {V : Nat → Nat → Int32} {k0 : Int32} {k1 : Int32} (nhb : nhh ≤ 999) (nwb : nww ≤ 6) (nkb : nkk ≤ 6) (hLv : okLv (nrm nv0 nv1 nv2 nv3 nhh nv5 nww nkk ng1 ng2 ng3 ng4 ng5)) (hfb : ∀ i : Nat, i < 24 → fb i = some (ad i)) (hok : ∀ i : Nat, i < 24 → okL (V i)) (hq : q < 24) (haz : az ≤ 24) (f_1_0_0 : (k0 < 0 ∨ (nI nww) ≤ k0)) : (-1000001) = (a_wind (nrm nv0 nv1 nv2 nv3 nhh nv5 nww nkk ng1 ng2 ng3 ng4 ng5) k0 k1) := by
  first
  | with_reducible exact wi_l (wi_g1 f_1_0_0)
  | with_reducible exact kz_n (wi_g1 f_1_0_0)
  | with_reducible exact kc_n (wi_g1 f_1_0_0)
  | with_reducible exact wi_a (wi_g1 f_1_0_0)
  | omega
set_option maxHeartbeats 60000 in
theorem lf_X7_wind_5 {nv0 : Int32} {nv1 : Int32} {nv2 : Int32} {nv3 : Int32} {nv5 : Int32} {nhh : Nat} {nww : Nat} {nkk : Nat} {ng1 : Nat → Int32} {ng2 : Nat → Int32} {ng3 : Nat → Int32} {ng4 : Nat → Int32} {ng5 : Nat → Int32} {q : Nat} {az : Nat} {fb : Nat → Option Nat} {ad : Nat → Nat} {V : Nat → Nat → Int32} {k1 : Int32} {j_1 : Nat} (nhb : nhh ≤ 999) (nwb : nww ≤ 6) (nkb : nkk ≤ 6) (hLv : okLv (nrm nv0 nv1 nv2 nv3 nhh nv5 nww nkk ng1 ng2 ng3 ng4 ng5)) (hfb : ∀ i : Nat, i < 24 → fb i = some (ad i)) (hok : ∀ i : Nat, i < 24 → okL (V i)) (hq : q < 24) (haz : az ≤ 24) (hj_1 : j_1 < nww) (c_5 : k1 < 0) : (nrm nv0 nv1 nv2 nv3 nhh nv5 nww nkk ng1 ng2 ng3 ng4 ng5) = n_wind (nrm nv0 nv1 nv2 nv3 nhh nv5 nww nkk ng1 ng2 ng3 ng4 ng5) (nI j_1) k1 := by
  first
  | with_reducible exact wi_l (wi_g2 c_5)
  | with_reducible exact kz_n (wi_g2 c_5)
  | with_reducible exact kc_n (wi_g2 c_5)
  | with_reducible exact wi_a (wi_g2 c_5)
  | omega
set_option maxHeartbeats 60000 in
theorem lf_X7_wind_6 {nv0 : Int32} {nv1 : Int32} {nv2 : Int32} {nv3 : Int32} {nv5 : Int32} {nhh : Nat} {nww : Nat} {nkk : Nat} {ng1 : Nat → Int32} {ng2 : Nat → Int32} {ng3 : Nat → Int32} {ng4 : Nat → Int32} {ng5 : Nat → Int32} {q : Nat} {az : Nat} {fb : Nat → Option Nat} {ad : Nat → Nat} {V : Nat → Nat → Int32} {k1 : Int32} {j_1 : Nat} (nhb : nhh ≤ 999) (nwb : nww ≤ 6) (nkb : nkk ≤ 6) (hLv : okLv (nrm nv0 nv1 nv2 nv3 nhh nv5 nww nkk ng1 ng2 ng3 ng4 ng5)) (hfb : ∀ i : Nat, i < 24 → fb i = some (ad i)) (hok : ∀ i : Nat, i < 24 → okL (V i)) (hq : q < 24) (haz : az ≤ 24) (hj_1 : j_1 < nww) (c_5 : k1 < 0) : az = kpN (gd_wind (nrm nv0 nv1 nv2 nv3 nhh nv5 nww nkk ng1 ng2 ng3 ng4 ng5) (nI j_1) k1) az := by
  first
  | with_reducible exact wi_l (wi_g2 c_5)
  | with_reducible exact kz_n (wi_g2 c_5)
  | with_reducible exact kc_n (wi_g2 c_5)
  | with_reducible exact wi_a (wi_g2 c_5)
  | omega
set_option maxHeartbeats 60000 in
theorem lf_X7_wind_7 {nv0 : Int32} {nv1 : Int32} {nv2 : Int32} {nv3 : Int32} {nv5 : Int32} {nhh : Nat} {nww : Nat} {nkk : Nat} {ng1 : Nat → Int32} {ng2 : Nat → Int32} {ng3 : Nat → Int32} {ng4 : Nat → Int32} {ng5 : Nat → Int32} {q : Nat} {az : Nat} {fb : Nat → Option Nat} {ad : Nat → Nat} {V : Nat → Nat → Int32} {G : Nat → Nat → Nat → Int32} {k1 : Int32} {j_1 : Nat} (nhb : nhh ≤ 999) (nwb : nww ≤ 6) (nkb : nkk ≤ 6) (hLv : okLv (nrm nv0 nv1 nv2 nv3 nhh nv5 nww nkk ng1 ng2 ng3 ng4 ng5)) (hfb : ∀ i : Nat, i < 24 → fb i = some (ad i)) (hok : ∀ i : Nat, i < 24 → okL (V i)) (hq : q < 24) (haz : az ≤ 24) (hj_1 : j_1 < nww) (c_5 : k1 < 0) : acX q az V G = kpA (gd_wind (nrm nv0 nv1 nv2 nv3 nhh nv5 nww nkk ng1 ng2 ng3 ng4 ng5) (nI j_1) k1) (nrm nv0 nv1 nv2 nv3 nhh nv5 nww nkk ng1 ng2 ng3 ng4 ng5) az (acX q az V G) := by
  first
  | with_reducible exact wi_l (wi_g2 c_5)
  | with_reducible exact kz_n (wi_g2 c_5)
  | with_reducible exact kc_n (wi_g2 c_5)
  | with_reducible exact wi_a (wi_g2 c_5)
  | omega
set_option maxHeartbeats 60000 in
theorem lf_X7_wind_8 {nv0 : Int32} {nv1 : Int32} {nv2 : Int32} {nv3 : Int32} {nv5 : Int32} {nhh : Nat} {nww : Nat} {nkk : Nat} {ng1 : Nat → Int32} {ng2 : Nat → Int32} {ng3 : Nat → Int32} {ng4 : Nat → Int32} {ng5 : Nat → Int32} {q : Nat} {az : Nat} {fb : Nat → Option Nat} {ad : Nat → Nat} {V : Nat → Nat → Int32} {k1 : Int32} {j_1 : Nat} (nhb : nhh ≤ 999) (nwb : nww ≤ 6) (nkb : nkk ≤ 6) (hLv : okLv (nrm nv0 nv1 nv2 nv3 nhh nv5 nww nkk ng1 ng2 ng3 ng4 ng5)) (hfb : ∀ i : Nat, i < 24 → fb i = some (ad i)) (hok : ∀ i : Nat, i < 24 → okL (V i)) (hq : q < 24) (haz : az ≤ 24) (hj_1 : j_1 < nww) (c_5 : k1 < 0) : (-1000001) = (a_wind (nrm nv0 nv1 nv2 nv3 nhh nv5 nww nkk ng1 ng2 ng3 ng4 ng5) (nI j_1) k1) := by
  first
  | with_reducible exact wi_l (wi_g2 c_5)
  | with_reducible exact kz_n (wi_g2 c_5)
  | with_reducible exact kc_n (wi_g2 c_5)
  | with_reducible exact wi_a (wi_g2 c_5)
  | omega
set_option maxHeartbeats 60000 in
theorem lf_X7_wind_9 {nv0 : Int32} {nv1 : Int32} {nv2 : Int32} {nv3 : Int32} {nv5 : Int32} {nhh : Nat} {nww : Nat} {nkk : Nat} {ng1 : Nat → Int32} {ng2 : Nat → Int32} {ng3 : Nat → Int32} {ng4 : Nat → Int32} {ng5 : Nat → Int32} {q : Nat} {az : Nat} {fb : Nat → Option Nat} {ad : Nat → Nat} {V : Nat → Nat → Int32} {G : Nat → Nat → Nat → Int32} {k1 : Int32} {j_1 : Nat} {v_7 : Int32} {Vn_8 : Nat → Nat → Int32} {Gn_8 : Nat → Nat → Nat → Int32} {qn_8 : Nat} {zn_8 : Nat} {g_9 : Nat → Int32} (nhb : nhh ≤ 999) (nwb : nww ≤ 6) (nkb : nkk ≤ 6) (hLv : okLv (nrm nv0 nv1 nv2 nv3 nhh nv5 nww nkk ng1 ng2 ng3 ng4 ng5)) (hfb : ∀ i : Nat, i < 24 → fb i = some (ad i)) (hok : ∀ i : Nat, i < 24 → okL (V i)) (hq : q < 24) (haz : az ≤ 24) (hj_1 : j_1 < nww) (c_5 : ¬ (k1 < 0)) (c_6 : k1 ≤ 4) (e_7 : v_7 = ng1 j_1) (hF_8_0 : (∀ i : Nat, i < 24 → okL (Vn_8 i))) (hF_8_1 : qn_8 < 24) (hF_8_2 : zn_8 ≤ 24) (hF_8_3 : nrV (Vn_8 q) (Gn_8 q) = (nrm nv0 nv1 nv2 nv3 nhh nv5 nww nkk ng1 ng2 ng3 ng4 ng5)) (hF_8_4 : (∀ i : Nat, i < 24 → i ≠ q → nrV (Vn_8 i) (Gn_8 i) = nrV (V i) (G i))) (hF_8_5 : qn_8 = (q + 1) % 24) (hF_8_6 : zn_8 = ntN az) (hu_9 : g_9 = upd ng1 j_1 k1) : (nrm nv0 nv1 nv2 nv3 nhh nv5 nww nkk g_9 ng2 ng3 ng4 ng5) = n_wind (nrm nv0 nv1 nv2 nv3 nhh nv5 nww nkk ng1 ng2 ng3 ng4 ng5) (nI j_1) k1 := by
  first
  | with_reducible exact wi_l (wi_g2 c_5)
  | with_reducible exact kz_n (wi_g2 c_5)
  | with_reducible exact kc_n (wi_g2 c_5)
  | with_reducible exact wi_a (wi_g2 c_5)
  | with_reducible exact wi_l (wi_g3 c_6)
  | with_reducible exact kz_n (wi_g3 c_6)
  | with_reducible exact kc_n (wi_g3 c_6)
  | with_reducible exact wi_a (wi_g3 c_6)
  | with_reducible exact wi_L hj_1 nwb c_5 c_6 hu_9
  | with_reducible exact kz_p (wi_p hj_1 nwb c_5 c_6) hF_8_6
  | with_reducible exact kc_p (wi_p hj_1 nwb c_5 c_6) hq haz hF_8_3 hF_8_4 hF_8_5 hF_8_6
  | with_reducible exact wi_A hj_1 nwb c_5 c_6 e_7
  | omega
set_option maxHeartbeats 60000 in
theorem lf_X7_wind_10 {nv0 : Int32} {nv1 : Int32} {nv2 : Int32} {nv3 : Int32} {nv5 : Int32} {nhh : Nat} {nww : Nat} {nkk : Nat} {ng1 : Nat → Int32} {ng2 : Nat → Int32} {ng3 : Nat → Int32} {ng4 : Nat → Int32} {ng5 : Nat → Int32} {q : Nat} {az : Nat} {fb : Nat → Option Nat} {ad : Nat → Nat} {V : Nat → Nat → Int32} {G : Nat → Nat → Nat → Int32} {k1 : Int32} {j_1 : Nat} {v_7 : Int32} {Vn_8 : Nat → Nat → Int32} {Gn_8 : Nat → Nat → Nat → Int32} {qn_8 : Nat} {zn_8 : Nat} {g_9 : Nat → Int32} (nhb : nhh ≤ 999) (nwb : nww ≤ 6) (nkb : nkk ≤ 6) (hLv : okLv (nrm nv0 nv1 nv2 nv3 nhh nv5 nww nkk ng1 ng2 ng3 ng4 ng5)) (hfb : ∀ i : Nat, i < 24 → fb i = some (ad i)) (hok : ∀ i : Nat, i < 24 → okL (V i)) (hq : q < 24) (haz : az ≤ 24) (hj_1 : j_1 < nww) (c_5 : ¬ (k1 < 0)) (c_6 : k1 ≤ 4) (e_7 : v_7 = ng1 j_1) (hF_8_0 : (∀ i : Nat, i < 24 → okL (Vn_8 i))) (hF_8_1 : qn_8 < 24) (hF_8_2 : zn_8 ≤ 24) (hF_8_3 : nrV (Vn_8 q) (Gn_8 q) = (nrm nv0 nv1 nv2 nv3 nhh nv5 nww nkk ng1 ng2 ng3 ng4 ng5)) (hF_8_4 : (∀ i : Nat, i < 24 → i ≠ q → nrV (Vn_8 i) (Gn_8 i) = nrV (V i) (G i))) (hF_8_5 : qn_8 = (q + 1) % 24) (hF_8_6 : zn_8 = ntN az) (hu_9 : g_9 = upd ng1 j_1 k1) : zn_8 = kpN (gd_wind (nrm nv0 nv1 nv2 nv3 nhh nv5 nww nkk ng1 ng2 ng3 ng4 ng5) (nI j_1) k1) az := by
  first
  | with_reducible exact wi_l (wi_g2 c_5)
  | with_reducible exact kz_n (wi_g2 c_5)
  | with_reducible exact kc_n (wi_g2 c_5)
  | with_reducible exact wi_a (wi_g2 c_5)
  | with_reducible exact wi_l (wi_g3 c_6)
  | with_reducible exact kz_n (wi_g3 c_6)
  | with_reducible exact kc_n (wi_g3 c_6)
  | with_reducible exact wi_a (wi_g3 c_6)
  | with_reducible exact wi_L hj_1 nwb c_5 c_6 hu_9
  | with_reducible exact kz_p (wi_p hj_1 nwb c_5 c_6) hF_8_6
  | with_reducible exact kc_p (wi_p hj_1 nwb c_5 c_6) hq haz hF_8_3 hF_8_4 hF_8_5 hF_8_6
  | with_reducible exact wi_A hj_1 nwb c_5 c_6 e_7
  | omega
set_option maxHeartbeats 60000 in
theorem lf_X7_wind_11 {nv0 : Int32} {nv1 : Int32} {nv2 : Int32} {nv3 : Int32} {nv5 : Int32} {nhh : Nat} {nww : Nat} {nkk : Nat} {ng1 : Nat → Int32} {ng2 : Nat → Int32} {ng3 : Nat → Int32} {ng4 : Nat → Int32} {ng5 : Nat → Int32} {q : Nat} {az : Nat} {fb : Nat → Option Nat} {ad : Nat → Nat} {V : Nat → Nat → Int32} {G : Nat → Nat → Nat → Int32} {k1 : Int32} {j_1 : Nat} {v_7 : Int32} {Vn_8 : Nat → Nat → Int32} {Gn_8 : Nat → Nat → Nat → Int32} {qn_8 : Nat} {zn_8 : Nat} {g_9 : Nat → Int32} (nhb : nhh ≤ 999) (nwb : nww ≤ 6) (nkb : nkk ≤ 6) (hLv : okLv (nrm nv0 nv1 nv2 nv3 nhh nv5 nww nkk ng1 ng2 ng3 ng4 ng5)) (hfb : ∀ i : Nat, i < 24 → fb i = some (ad i)) (hok : ∀ i : Nat, i < 24 → okL (V i)) (hq : q < 24) (haz : az ≤ 24) (hj_1 : j_1 < nww) (c_5 : ¬ (k1 < 0)) (c_6 : k1 ≤ 4) (e_7 : v_7 = ng1 j_1) (hF_8_0 : (∀ i : Nat, i < 24 → okL (Vn_8 i))) (hF_8_1 : qn_8 < 24) (hF_8_2 : zn_8 ≤ 24) (hF_8_3 : nrV (Vn_8 q) (Gn_8 q) = (nrm nv0 nv1 nv2 nv3 nhh nv5 nww nkk ng1 ng2 ng3 ng4 ng5)) (hF_8_4 : (∀ i : Nat, i < 24 → i ≠ q → nrV (Vn_8 i) (Gn_8 i) = nrV (V i) (G i))) (hF_8_5 : qn_8 = (q + 1) % 24) (hF_8_6 : zn_8 = ntN az) (hu_9 : g_9 = upd ng1 j_1 k1) : acX qn_8 zn_8 Vn_8 Gn_8 = kpA (gd_wind (nrm nv0 nv1 nv2 nv3 nhh nv5 nww nkk ng1 ng2 ng3 ng4 ng5) (nI j_1) k1) (nrm nv0 nv1 nv2 nv3 nhh nv5 nww nkk ng1 ng2 ng3 ng4 ng5) az (acX q az V G) := by
  first
  | with_reducible exact wi_l (wi_g2 c_5)
  | with_reducible exact kz_n (wi_g2 c_5)
  | with_reducible exact kc_n (wi_g2 c_5)
  | with_reducible exact wi_a (wi_g2 c_5)
  | with_reducible exact wi_l (wi_g3 c_6)
  | with_reducible exact kz_n (wi_g3 c_6)
  | with_reducible exact kc_n (wi_g3 c_6)
  | with_reducible exact wi_a (wi_g3 c_6)
  | with_reducible exact wi_L hj_1 nwb c_5 c_6 hu_9
  | with_reducible exact kz_p (wi_p hj_1 nwb c_5 c_6) hF_8_6
  | with_reducible exact kc_p (wi_p hj_1 nwb c_5 c_6) hq haz hF_8_3 hF_8_4 hF_8_5 hF_8_6
  | with_reducible exact wi_A hj_1 nwb c_5 c_6 e_7
  | omega
set_option maxHeartbeats 60000 in
theorem lf_X7_wind_12 {nv0 : Int32} {nv1 : Int32} {nv2 : Int32} {nv3 : Int32} {nv5 : Int32} {nhh : Nat} {nww : Nat} {nkk : Nat} {ng1 : Nat → Int32} {ng2 : Nat → Int32} {ng3 : Nat → Int32} {ng4 : Nat → Int32} {ng5 : Nat → Int32} {q : Nat} {az : Nat} {fb : Nat → Option Nat} {ad : Nat → Nat} {V : Nat → Nat → Int32} {G : Nat → Nat → Nat → Int32} {k1 : Int32} {j_1 : Nat} {v_7 : Int32} {Vn_8 : Nat → Nat → Int32} {Gn_8 : Nat → Nat → Nat → Int32} {qn_8 : Nat} {zn_8 : Nat} {g_9 : Nat → Int32} (nhb : nhh ≤ 999) (nwb : nww ≤ 6) (nkb : nkk ≤ 6) (hLv : okLv (nrm nv0 nv1 nv2 nv3 nhh nv5 nww nkk ng1 ng2 ng3 ng4 ng5)) (hfb : ∀ i : Nat, i < 24 → fb i = some (ad i)) (hok : ∀ i : Nat, i < 24 → okL (V i)) (hq : q < 24) (haz : az ≤ 24) (hj_1 : j_1 < nww) (c_5 : ¬ (k1 < 0)) (c_6 : k1 ≤ 4) (e_7 : v_7 = ng1 j_1) (hF_8_0 : (∀ i : Nat, i < 24 → okL (Vn_8 i))) (hF_8_1 : qn_8 < 24) (hF_8_2 : zn_8 ≤ 24) (hF_8_3 : nrV (Vn_8 q) (Gn_8 q) = (nrm nv0 nv1 nv2 nv3 nhh nv5 nww nkk ng1 ng2 ng3 ng4 ng5)) (hF_8_4 : (∀ i : Nat, i < 24 → i ≠ q → nrV (Vn_8 i) (Gn_8 i) = nrV (V i) (G i))) (hF_8_5 : qn_8 = (q + 1) % 24) (hF_8_6 : zn_8 = ntN az) (hu_9 : g_9 = upd ng1 j_1 k1) : v_7 = (a_wind (nrm nv0 nv1 nv2 nv3 nhh nv5 nww nkk ng1 ng2 ng3 ng4 ng5) (nI j_1) k1) := by
  first
  | with_reducible exact wi_l (wi_g2 c_5)
  | with_reducible exact kz_n (wi_g2 c_5)
  | with_reducible exact kc_n (wi_g2 c_5)
  | with_reducible exact wi_a (wi_g2 c_5)
  | with_reducible exact wi_l (wi_g3 c_6)
  | with_reducible exact kz_n (wi_g3 c_6)
  | with_reducible exact kc_n (wi_g3 c_6)
  | with_reducible exact wi_a (wi_g3 c_6)
  | with_reducible exact wi_L hj_1 nwb c_5 c_6 hu_9
  | with_reducible exact kz_p (wi_p hj_1 nwb c_5 c_6) hF_8_6
  | with_reducible exact kc_p (wi_p hj_1 nwb c_5 c_6) hq haz hF_8_3 hF_8_4 hF_8_5 hF_8_6
  | with_reducible exact wi_A hj_1 nwb c_5 c_6 e_7
  | omega
set_option maxHeartbeats 60000 in
theorem lf_X7_wind_13 {nv0 : Int32} {nv1 : Int32} {nv2 : Int32} {nv3 : Int32} {nv5 : Int32} {nhh : Nat} {nww : Nat} {nkk : Nat} {ng1 : Nat → Int32} {ng2 : Nat → Int32} {ng3 : Nat → Int32} {ng4 : Nat → Int32} {ng5 : Nat → Int32} {q : Nat} {az : Nat} {fb : Nat → Option Nat} {ad : Nat → Nat} {V : Nat → Nat → Int32} {k1 : Int32} {j_1 : Nat} (nhb : nhh ≤ 999) (nwb : nww ≤ 6) (nkb : nkk ≤ 6) (hLv : okLv (nrm nv0 nv1 nv2 nv3 nhh nv5 nww nkk ng1 ng2 ng3 ng4 ng5)) (hfb : ∀ i : Nat, i < 24 → fb i = some (ad i)) (hok : ∀ i : Nat, i < 24 → okL (V i)) (hq : q < 24) (haz : az ≤ 24) (hj_1 : j_1 < nww) (c_5 : ¬ (k1 < 0)) (c_6 : ¬ (k1 ≤ 4)) : (nrm nv0 nv1 nv2 nv3 nhh nv5 nww nkk ng1 ng2 ng3 ng4 ng5) = n_wind (nrm nv0 nv1 nv2 nv3 nhh nv5 nww nkk ng1 ng2 ng3 ng4 ng5) (nI j_1) k1 := by
  first
  | with_reducible exact wi_l (wi_g2 c_5)
  | with_reducible exact kz_n (wi_g2 c_5)
  | with_reducible exact kc_n (wi_g2 c_5)
  | with_reducible exact wi_a (wi_g2 c_5)
  | with_reducible exact wi_l (wi_g3 c_6)
  | with_reducible exact kz_n (wi_g3 c_6)
  | with_reducible exact kc_n (wi_g3 c_6)
  | with_reducible exact wi_a (wi_g3 c_6)
  | omega
set_option maxHeartbeats 60000 in
theorem lf_X7_wind_14 {nv0 : Int32} {nv1 : Int32} {nv2 : Int32} {nv3 : Int32} {nv5 : Int32} {nhh : Nat} {nww : Nat} {nkk : Nat} {ng1 : Nat → Int32} {ng2 : Nat → Int32} {ng3 : Nat → Int32} {ng4 : Nat → Int32} {ng5 : Nat → Int32} {q : Nat} {az : Nat} {fb : Nat → Option Nat} {ad : Nat → Nat} {V : Nat → Nat → Int32} {k1 : Int32} {j_1 : Nat} (nhb : nhh ≤ 999) (nwb : nww ≤ 6) (nkb : nkk ≤ 6) (hLv : okLv (nrm nv0 nv1 nv2 nv3 nhh nv5 nww nkk ng1 ng2 ng3 ng4 ng5)) (hfb : ∀ i : Nat, i < 24 → fb i = some (ad i)) (hok : ∀ i : Nat, i < 24 → okL (V i)) (hq : q < 24) (haz : az ≤ 24) (hj_1 : j_1 < nww) (c_5 : ¬ (k1 < 0)) (c_6 : ¬ (k1 ≤ 4)) : az = kpN (gd_wind (nrm nv0 nv1 nv2 nv3 nhh nv5 nww nkk ng1 ng2 ng3 ng4 ng5) (nI j_1) k1) az := by
  first
  | with_reducible exact wi_l (wi_g2 c_5)
  | with_reducible exact kz_n (wi_g2 c_5)
  | with_reducible exact kc_n (wi_g2 c_5)
  | with_reducible exact wi_a (wi_g2 c_5)
  | with_reducible exact wi_l (wi_g3 c_6)
  | with_reducible exact kz_n (wi_g3 c_6)
  | with_reducible exact kc_n (wi_g3 c_6)
  | with_reducible exact wi_a (wi_g3 c_6)
  | omega
set_option maxHeartbeats 60000 in
theorem lf_X7_wind_15 {nv0 : Int32} {nv1 : Int32} {nv2 : Int32} {nv3 : Int32} {nv5 : Int32} {nhh : Nat} {nww : Nat} {nkk : Nat} {ng1 : Nat → Int32} {ng2 : Nat → Int32} {ng3 : Nat → Int32} {ng4 : Nat → Int32} {ng5 : Nat → Int32} {q : Nat} {az : Nat} {fb : Nat → Option Nat} {ad : Nat → Nat} {V : Nat → Nat → Int32} {G : Nat → Nat → Nat → Int32} {k1 : Int32} {j_1 : Nat} (nhb : nhh ≤ 999) (nwb : nww ≤ 6) (nkb : nkk ≤ 6) (hLv : okLv (nrm nv0 nv1 nv2 nv3 nhh nv5 nww nkk ng1 ng2 ng3 ng4 ng5)) (hfb : ∀ i : Nat, i < 24 → fb i = some (ad i)) (hok : ∀ i : Nat, i < 24 → okL (V i)) (hq : q < 24) (haz : az ≤ 24) (hj_1 : j_1 < nww) (c_5 : ¬ (k1 < 0)) (c_6 : ¬ (k1 ≤ 4)) : acX q az V G = kpA (gd_wind (nrm nv0 nv1 nv2 nv3 nhh nv5 nww nkk ng1 ng2 ng3 ng4 ng5) (nI j_1) k1) (nrm nv0 nv1 nv2 nv3 nhh nv5 nww nkk ng1 ng2 ng3 ng4 ng5) az (acX q az V G) := by
  first
  | with_reducible exact wi_l (wi_g2 c_5)
  | with_reducible exact kz_n (wi_g2 c_5)
  | with_reducible exact kc_n (wi_g2 c_5)
  | with_reducible exact wi_a (wi_g2 c_5)
  | with_reducible exact wi_l (wi_g3 c_6)
  | with_reducible exact kz_n (wi_g3 c_6)
  | with_reducible exact kc_n (wi_g3 c_6)
  | with_reducible exact wi_a (wi_g3 c_6)
  | omega
set_option maxHeartbeats 60000 in
theorem lf_X7_wind_16 {nv0 : Int32} {nv1 : Int32} {nv2 : Int32} {nv3 : Int32} {nv5 : Int32} {nhh : Nat} {nww : Nat} {nkk : Nat} {ng1 : Nat → Int32} {ng2 : Nat → Int32} {ng3 : Nat → Int32} {ng4 : Nat → Int32} {ng5 : Nat → Int32} {q : Nat} {az : Nat} {fb : Nat → Option Nat} {ad : Nat → Nat} {V : Nat → Nat → Int32} {k1 : Int32} {j_1 : Nat} (nhb : nhh ≤ 999) (nwb : nww ≤ 6) (nkb : nkk ≤ 6) (hLv : okLv (nrm nv0 nv1 nv2 nv3 nhh nv5 nww nkk ng1 ng2 ng3 ng4 ng5)) (hfb : ∀ i : Nat, i < 24 → fb i = some (ad i)) (hok : ∀ i : Nat, i < 24 → okL (V i)) (hq : q < 24) (haz : az ≤ 24) (hj_1 : j_1 < nww) (c_5 : ¬ (k1 < 0)) (c_6 : ¬ (k1 ≤ 4)) : (-1000001) = (a_wind (nrm nv0 nv1 nv2 nv3 nhh nv5 nww nkk ng1 ng2 ng3 ng4 ng5) (nI j_1) k1) := by
  first
  | with_reducible exact wi_l (wi_g2 c_5)
  | with_reducible exact kz_n (wi_g2 c_5)
  | with_reducible exact kc_n (wi_g2 c_5)
  | with_reducible exact wi_a (wi_g2 c_5)
  | with_reducible exact wi_l (wi_g3 c_6)
  | with_reducible exact kz_n (wi_g3 c_6)
  | with_reducible exact kc_n (wi_g3 c_6)
  | with_reducible exact wi_a (wi_g3 c_6)
  | omega
set_option maxHeartbeats 4000000 in
set_option maxRecDepth 100000 in
theorem r_X7_wind (l : Launch) (dC : Nat → ClassId) (dI : Nat → Nat → Nat) (cI cZ cL cJ : ClassId) (sz : Nat) (x : Nat) (ro : Nat) (ta : Nat) (no : Nat) (ac : Nat) (im : Nat) (tr : Nat) (pl : Nat) (cs : Nat) (ak : Nat) (xf : Int32) (xg : Int32) (nv0 : Int32) (nv1 : Int32) (nv2 : Int32) (nv3 : Int32) (nv5 : Int32) (nhh : Nat) (nww : Nat) (nkk : Nat) (nb1 : Nat) (nb2 : Nat) (nb3 : Nat) (nb4 : Nat) (nb5 : Nat) (ng1 : Nat → Int32) (ng2 : Nat → Int32) (ng3 : Nat → Int32) (ng4 : Nat → Int32) (ng5 : Nat → Int32) (be : Nat) (q : Nat) (az : Nat) (fb : Nat → Option Nat) (ad : Nat → Nat) (bd : Nat → Nat → Nat) (V : Nat → Nat → Int32) (G : Nat → Nat → Nat → Int32) (k0 : Int32) (k1 : Int32) (nhb : nhh ≤ 999) (nwb : nww ≤ 6) (nkb : nkk ≤ 6) (hLv : okLv (nrm nv0 nv1 nv2 nv3 nhh nv5 nww nkk ng1 ng2 ng3 ng4 ng5)) (hfb : ∀ i : Nat, i < 24 → fb i = some (ad i)) (hok : ∀ i : Nat, i < 24 → okL (V i)) (hq : q < 24) (haz : az ≤ 24) : Met l yX7_wind wsX7_wind ({ frames := 3, cells := 0, slots := 0, locals := 122 }) (va_Pc [.ref x, .int k0, .int k1] (fun U => U.heap.size = sz ∧ va_P (dC, dI) vwCl (([(xo_7_rrrrrrrrrii x ro ta no ac im tr pl cs ak xf xg), (xo_3_iiiiiiiirrrrr no nv0 nv1 nv2 nv3 (nI nhh) nv5 (nI nww) (nI nkk) nb1 nb2 nb3 nb4 nb5), (xI nb1 cI 6 ng1), (xI nb2 cI 6 ng2), (xI nb3 cI 6 ng3), (xI nb4 cI 6 ng4), (xI nb5 cI 6 ng5), (xo_0_rii ac be (nI q) (nI az)), (xJ be cL 24 fb)] : va_W) ++ lvs cI 24 ad bd V G) U.heap ∧ va_K (dC, dI) vwCl [(cI, .int), (cZ, .boolean), (cL, .object RX3), (cJ, .array .int)] U ∧ va_D (fun _ => True) (([(xo_7_rrrrrrrrrii x ro ta no ac im tr pl cs ak xf xg), (xo_3_iiiiiiiirrrrr no nv0 nv1 nv2 nv3 (nI nhh) nv5 (nI nww) (nI nkk) nb1 nb2 nb3 nb4 nb5), (xI nb1 cI 6 ng1), (xI nb2 cI 6 ng2), (xI nb3 cI 6 ng3), (xI nb4 cI 6 ng4), (xI nb5 cI 6 ng5), (xo_0_rii ac be (nI q) (nI az)), (xJ be cL 24 fb)] : va_W) ++ lvs cI 24 ad bd V G))) (va_Qi (fun r (_ : Unit) => r = (a_wind (nrm nv0 nv1 nv2 nv3 nhh nv5 nww nkk ng1 ng2 ng3 ng4 ng5) k0 k1)) (fun (_ : Unit) t => ∃ (Vn : Nat → Nat → Int32) (Gn : Nat → Nat → Nat → Int32) (nv0n : Int32) (nv1n : Int32) (nv2n : Int32) (nv3n : Int32) (nv5n : Int32) (ng1n : Nat → Int32) (ng2n : Nat → Int32) (ng3n : Nat → Int32) (ng4n : Nat → Int32) (ng5n : Nat → Int32) (nhn : Nat) (nwn : Nat) (nkn : Nat) (qn : Nat) (azn : Nat), va_P (dC, dI) vwCl (([(xo_7_rrrrrrrrrii x ro ta no ac im tr pl cs ak xf xg), (xo_3_iiiiiiiirrrrr no nv0n nv1n nv2n nv3n (nI nhn) nv5n (nI nwn) (nI nkn) nb1 nb2 nb3 nb4 nb5), (xI nb1 cI 6 ng1n), (xI nb2 cI 6 ng2n), (xI nb3 cI 6 ng3n), (xI nb4 cI 6 ng4n), (xI nb5 cI 6 ng5n), (xo_0_rii ac be (nI qn) (nI azn)), (xJ be cL 24 fb)] : va_W) ++ lvs cI 24 ad bd Vn Gn) t.heap ∧ va_D (va_A (([(xo_7_rrrrrrrrrii x ro ta no ac im tr pl cs ak xf xg), (xo_3_iiiiiiiirrrrr no nv0 nv1 nv2 nv3 (nI nhh) nv5 (nI nww) (nI nkk) nb1 nb2 nb3 nb4 nb5), (xI nb1 cI 6 ng1), (xI nb2 cI 6 ng2), (xI nb3 cI 6 ng3), (xI nb4 cI 6 ng4), (xI nb5 cI 6 ng5), (xo_0_rii ac be (nI q) (nI az)), (xJ be cL 24 fb)] : va_W) ++ lvs cI 24 ad bd V G) sz) (([(xo_7_rrrrrrrrrii x ro ta no ac im tr pl cs ak xf xg), (xo_3_iiiiiiiirrrrr no nv0n nv1n nv2n nv3n (nI nhn) nv5n (nI nwn) (nI nkn) nb1 nb2 nb3 nb4 nb5), (xI nb1 cI 6 ng1n), (xI nb2 cI 6 ng2n), (xI nb3 cI 6 ng3n), (xI nb4 cI 6 ng4n), (xI nb5 cI 6 ng5n), (xo_0_rii ac be (nI qn) (nI azn)), (xJ be cL 24 fb)] : va_W) ++ lvs cI 24 ad bd Vn Gn) ∧ (∀ i : Nat, i < 24 → okL (Vn i)) ∧ qn < 24 ∧ azn ≤ 24 ∧ nhn ≤ 999 ∧ nwn ≤ 6 ∧ nkn ≤ 6 ∧ (nrm nv0n nv1n nv2n nv3n nhn nv5n nwn nkn ng1n ng2n ng3n ng4n ng5n) = n_wind (nrm nv0 nv1 nv2 nv3 nhh nv5 nww nkk ng1 ng2 ng3 ng4 ng5) k0 k1 ∧ azn = kpN (gd_wind (nrm nv0 nv1 nv2 nv3 nhh nv5 nww nkk ng1 ng2 ng3 ng4 ng5) k0 k1) az ∧ acX qn azn Vn Gn = kpA (gd_wind (nrm nv0 nv1 nv2 nv3 nhh nv5 nww nkk ng1 ng2 ng3 ng4 ng5) k0 k1) (nrm nv0 nv1 nv2 nv3 nhh nv5 nww nkk ng1 ng2 ng3 ng4 ng5) az (acX q az V G)) (va_A (([(xo_7_rrrrrrrrrii x ro ta no ac im tr pl cs ak xf xg), (xo_3_iiiiiiiirrrrr no nv0 nv1 nv2 nv3 (nI nhh) nv5 (nI nww) (nI nkk) nb1 nb2 nb3 nb4 nb5), (xI nb1 cI 6 ng1), (xI nb2 cI 6 ng2), (xI nb3 cI 6 ng3), (xI nb4 cI 6 ng4), (xI nb5 cI 6 ng5), (xo_0_rii ac be (nI q) (nI az)), (xJ be cL 24 fb)] : va_W) ++ lvs cI 24 ad bd V G) sz)) 0 0 (va_A (([(xo_7_rrrrrrrrrii x ro ta no ac im tr pl cs ak xf xg), (xo_3_iiiiiiiirrrrr no nv0 nv1 nv2 nv3 (nI nhh) nv5 (nI nww) (nI nkk) nb1 nb2 nb3 nb4 nb5), (xI nb1 cI 6 ng1), (xI nb2 cI 6 ng2), (xI nb3 cI 6 ng3), (xI nb4 cI 6 ng4), (xI nb5 cI 6 ng5), (xo_0_rii ac be (nI q) (nI az)), (xJ be cL 24 fb)] : va_W) ++ lvs cI 24 ad bd V G) sz) := by
  refine Met.ofW (cc := cX7_wind) (maxL := 4) (ret := (some .int)) (by decide) rfl ?_
  intro p e s m args below meth c s₁ B hml hv
  obtain ⟨rfl, hsz, hP, hK, hD0⟩ := hv
  have hx := B.exec
  have hb := B.bytes
  have hr := B.returns
  have hts := atoms_spec (ws := wsX7_wind) B.pre
  have hown : s.vm.findClass RX7 = some m.cls := findClass_of_methodNamed B.named
  have hlocks := B.notSynchronized
  subst hsz
  have hD := hD0.self (sz := s.heap.size)
  generalize hAe : va_A (([(xo_7_rrrrrrrrrii x ro ta no ac im tr pl cs ak xf xg), (xo_3_iiiiiiiirrrrr no nv0 nv1 nv2 nv3 (nI nhh) nv5 (nI nww) (nI nkk) nb1 nb2 nb3 nb4 nb5), (xI nb1 cI 6 ng1), (xI nb2 cI 6 ng2), (xI nb3 cI 6 ng3), (xI nb4 cI 6 ng4), (xI nb5 cI 6 ng5), (xo_0_rii ac be (nI q) (nI az)), (xJ be cL 24 fb)] : va_W) ++ lvs cI 24 ad bd V G) s.heap.size = A at hD ⊢
  have hA : ∀ q : Nat, s.heap.size ≤ q → A q := fun q h => by rw [← hAe]; exact Or.inr h
  have hS : va_S A s.heap s.heap [] := va_S.rf
  have hP : va_P (dC, dI) vwCl (([(xo_7_rrrrrrrrrii x ro ta no ac im tr pl cs ak xf xg), (xo_3_iiiiiiiirrrrr no nv0 nv1 nv2 nv3 (nI nhh) nv5 (nI nww) (nI nkk) nb1 nb2 nb3 nb4 nb5), (xI nb1 cI 6 ng1), (xI nb2 cI 6 ng2), (xI nb3 cI 6 ng3), (xI nb4 cI 6 ng4), (xI nb5 cI 6 ng5), (xo_0_rii ac be (nI q) (nI az)), (xJ be cL 24 fb)] : va_W) ++ lvs cI 24 ad bd V G) s.heap := hP
  have hl := lv_entry ([.ref x, .int k0, .int k1]) (n := 4) (Nat.le_of_ble_eq_true rfl)
  rw [lg_entry_eq]
  generalize (lg_sl ([.ref x, .int k0, .int k1]) ++ List.replicate (4 - (lg_sl ([.ref x, .int k0, .int k1])).length) Slot.unset).toArray = ls at hl ⊢
  have hl : lv_has ls 4 [(0, .ref x), (1, .int k0), (2, .int k1)] := hl
  refine lv_aload_n hx hb dX7_wind_0 rfl (lv_at hl 0 rfl) ?_
  refine va_get (D := (dC, dI)) (ci := 7) (v := .ref no) (C := RX7) (T := TX7) (N := 11) hx hb hts i_X7_wind_X7 hown hK hP 0 rfl rfl 2 (by decide) (hts _ mx_X7_wind_1) (fun _ h9 => h9) rfl dX7_wind_1 ?_
  refine lv_iload_n hx hb dX7_wind_4 rfl (lv_at hl 1 rfl) ?_
  have hPc_1 := hP.sub (ws' := [(xo_3_iiiiiiiirrrrr no nv0 nv1 nv2 nv3 (nI nhh) nv5 (nI nww) (nI nkk) nb1 nb2 nb3 nb4 nb5), (xI nb1 cI 6 ng1), (xI nb2 cI 6 ng2), (xI nb3 cI 6 ng3), (xI nb4 cI 6 ng4), (xI nb5 cI 6 ng5)]) [1, 2, 3, 4, 5, 6] rfl
  refine vp_callSi (W.runV (As := [.int k0]) (rest := []) ⟨hx, hb, hml, hown, hts⟩ (r_X3_hasWind l dC dI cI cZ cL cJ no nv0 nv1 nv2 nv3 nv5 nhh nww nkk nb1 nb2 nb3 nb4 nb5 ng1 ng2 ng3 ng4 ng5 k0 (by omega) (by omega) (by omega)) (cwV 1 hts gX7_wind_X3_hasWind rfl rfl rfl (by decide +kernel) ⟨Nat.le_of_ble_eq_true rfl, Nat.le_of_ble_eq_true rfl⟩) (pvP 3 1 hK hP rfl rfl hPc_1) rfl rfl hl.1 rfl (lv_room (Nat.le_of_ble_eq_true rfl)) dX7_wind_5 ⟨Nat.le_of_ble_eq_true rfl, Nat.le_of_ble_eq_true rfl⟩) (fun r_1 h_1 => ?_)
  rcases h_1 with ⟨h_1, f_1_0_0⟩ | ⟨h_1, f_1_1_0⟩
  · subst h_1
    refine lv_if_eq (tgt := 20) hx hb dX7_wind_8 (by decide) (fun _ => ?_) (fun c_ => absurd (by decide) c_)
    refine lv_ldc (own := RX7) (v := (-1000001)) hx hb hown (hts _ mx_X7_wind_2) dX7_wind_20 ?_
    have hX9 := cut2P (cx := [(xo_7_rrrrrrrrrii x ro ta no ac im tr pl cs ak xf xg), (xo_3_iiiiiiiirrrrr no nv0 nv1 nv2 nv3 (nI nhh) nv5 (nI nww) (nI nkk) nb1 nb2 nb3 nb4 nb5), (xI nb1 cI 6 ng1), (xI nb2 cI 6 ng2), (xI nb3 cI 6 ng3), (xI nb4 cI 6 ng4), (xI nb5 cI 6 ng5), (xo_0_rii ac be (nI q) (nI az)), (xJ be cL 24 fb)]) hP hD [0, 1, 2, 3, 4, 5, 6, 7, 8] (by decide +kernel) rfl
    exact W.iret (v := (-1000001)) hx hb hr (fun t ht hW => ⟨⟨(-1000001), (), rfl, (lf_X7_wind_4 nhb nwb nkb hLv hfb hok hq haz f_1_0_0), ⟨V, G, nv0, nv1, nv2, nv3, nv5, ng1, ng2, ng3, ng4, ng5, nhh, nww, nkk, q, az, va_Ht ht hX9.1, hX9.2, hok, (by omega), (by omega), (by omega), (by omega), (by omega), (lf_X7_wind_1 nhb nwb nkb hLv hfb hok hq haz f_1_0_0), (lf_X7_wind_2 nhb nwb nkb hLv hfb hok hq haz f_1_0_0), (lf_X7_wind_3 nhb nwb nkb hLv hfb hok hq haz f_1_0_0)⟩⟩, hS.F ht⟩) hS.2.2 dX7_wind_22
  · subst h_1
    obtain ⟨j_1, hj_1, rfl⟩ := vp_in_of f_1_1_0 (by omega)
    refine lv_if_eq (tgt := 20) hx hb dX7_wind_8 (by decide) (fun c_ => absurd c_ (by decide)) (fun _ => ?_)
    refine lv_iload_n hx hb dX7_wind_11 rfl (lv_at hl 2 rfl) ?_
    refine lv_if_lt (tgt := 20) hx hb dX7_wind_12 (by decide) (fun c_5 => ?_) (fun c_5 => ?_)
    · skip
      refine lv_ldc (own := RX7) (v := (-1000001)) hx hb hown (hts _ mx_X7_wind_2) dX7_wind_20 ?_
      have hX9 := cut2P (cx := [(xo_7_rrrrrrrrrii x ro ta no ac im tr pl cs ak xf xg), (xo_3_iiiiiiiirrrrr no nv0 nv1 nv2 nv3 (nI nhh) nv5 (nI nww) (nI nkk) nb1 nb2 nb3 nb4 nb5), (xI nb1 cI 6 ng1), (xI nb2 cI 6 ng2), (xI nb3 cI 6 ng3), (xI nb4 cI 6 ng4), (xI nb5 cI 6 ng5), (xo_0_rii ac be (nI q) (nI az)), (xJ be cL 24 fb)]) hP hD [0, 1, 2, 3, 4, 5, 6, 7, 8] (by decide +kernel) rfl
      exact W.iret (v := (-1000001)) hx hb hr (fun t ht hW => ⟨⟨(-1000001), (), rfl, (lf_X7_wind_8 nhb nwb nkb hLv hfb hok hq haz hj_1 c_5), ⟨V, G, nv0, nv1, nv2, nv3, nv5, ng1, ng2, ng3, ng4, ng5, nhh, nww, nkk, q, az, va_Ht ht hX9.1, hX9.2, hok, (by omega), (by omega), (by omega), (by omega), (by omega), (lf_X7_wind_5 nhb nwb nkb hLv hfb hok hq haz hj_1 c_5), (lf_X7_wind_6 nhb nwb nkb hLv hfb hok hq haz hj_1 c_5), (lf_X7_wind_7 nhb nwb nkb hLv hfb hok hq haz hj_1 c_5)⟩⟩, hS.F ht⟩) hS.2.2 dX7_wind_22
    · skip
      refine lv_iload_n hx hb dX7_wind_15 rfl (lv_at hl 2 rfl) ?_
      refine lv_iconst (v := 4) hx hb dX7_wind_16 (by decide) ?_
      refine lv_icmp_le (tgt := 23) hx hb dX7_wind_17 (by decide) (fun c_6 => ?_) (fun c_6 => ?_)
      · skip
        refine lv_aload_n hx hb dX7_wind_23 rfl (lv_at hl 0 rfl) ?_
        refine va_get (D := (dC, dI)) (ci := 7) (v := .ref no) (C := RX7) (T := TX7) (N := 11) hx hb hts i_X7_wind_X7 hown hK hP 0 rfl rfl 2 (by decide) (hts _ mx_X7_wind_1) (fun _ h9 => h9) rfl dX7_wind_24 ?_
        refine va_get (D := (dC, dI)) (ci := 3) (v := .ref nb1) (C := RX3) (T := TX3) (N := 13) hx hb hts i_X7_wind_X3 hown hK hP 1 rfl rfl 8 (by decide) (hts _ mx_X7_wind_3) (fun _ h9 => h9) rfl dX7_wind_27 ?_
        refine lv_iload_n hx hb dX7_wind_30 rfl (lv_at hl 1 rfl) ?_
        refine va_iald hx hb hK hP 2 0 rfl rfl (vp_in_nI (by omega) (by omega)) dX7_wind_31 ?_
        refine lv_topi (fun v_7 e_7 => ?_)
        have e_7 : v_7 = ng1 j_1 := e_7.trans (congrArg ng1 (nI_clamp (by omega)))
        refine lv_istore_n (lv' := [(3, .int v_7), (0, .ref x), (1, .int (nI j_1)), (2, .int k1)]) hx hb dX7_wind_32 rfl hl (by decide) rfl (fun ls hl => ?_)
        refine lv_aload_n hx hb dX7_wind_33 rfl (lv_at hl 1 rfl) ?_
        refine va_get (D := (dC, dI)) (ci := 7) (v := .ref ac) (C := RX7) (T := TX7) (N := 11) hx hb hts i_X7_wind_X7 hown hK hP 0 rfl rfl 3 (by decide) (hts _ mx_X7_wind_4) (fun _ h9 => h9) rfl dX7_wind_34 ?_
        refine lv_aload_n hx hb dX7_wind_37 rfl (lv_at hl 1 rfl) ?_
        refine va_get (D := (dC, dI)) (ci := 7) (v := .ref no) (C := RX7) (T := TX7) (N := 11) hx hb hts i_X7_wind_X7 hown hK hP 0 rfl rfl 2 (by decide) (hts _ mx_X7_wind_1) (fun _ h9 => h9) rfl dX7_wind_38 ?_
        have hc_8 := cutP (cx := [(xo_0_rii ac be (nI q) (nI az)), (xJ be cL 24 fb), (xo_3_iiiiiiiirrrrr no nv0 nv1 nv2 nv3 (nI nhh) nv5 (nI nww) (nI nkk) nb1 nb2 nb3 nb4 nb5), (xI nb1 cI 6 ng1), (xI nb2 cI 6 ng2), (xI nb3 cI 6 ng3), (xI nb4 cI 6 ng4), (xI nb5 cI 6 ng5)]) hP hD hS hA [7, 8, 1, 2, 3, 4, 5, 6] (by decide +kernel) rfl
        refine va_callv (va_runV (As := [.ref no]) (rest := []) ⟨hx, hb, hml, hown, hts⟩ (r_X0_keep l dC dI cI cZ cL cJ s.heap.size ac be q az fb ad bd V G no nv0 nv1 nv2 nv3 nv5 nhh nww nkk nb1 nb2 nb3 nb4 nb5 ng1 ng2 ng3 ng4 ng5 (hfb) (hok) (by omega) (by omega) (by omega) (by omega) (by omega)) (cwV 1 hts gX7_wind_X0_keep rfl rfl rfl (by decide +kernel) ⟨Nat.le_of_ble_eq_true rfl, Nat.le_of_ble_eq_true rfl⟩) (pvW 0 7 hK hP rfl rfl hc_8) rfl rfl hl.1 rfl (lv_room (Nat.le_of_ble_eq_true rfl)) dX7_wind_41 ⟨Nat.le_of_ble_eq_true rfl, Nat.le_of_ble_eq_true rfl⟩) hS (fun q _ h => hc_8.2.2 q h) hc_8.2.2 (fun u_8 t_8 H1 locs ht hvm h_8 hB hz1 hk1 hS => ?_)
        refine xl_4_9 hB (fun Vn_8 Gn_8 qn_8 zn_8 hP1 hD1 hF_8_0 hF_8_1 hF_8_2 hF_8_3 hF_8_4 hF_8_5 hF_8_6 => ?_)
        clear hB
        rw [ht] at hP1
        obtain ⟨hP, hD⟩ := va_joinP (wr := [(xo_7_rrrrrrrrrii x ro ta no ac im tr pl cs ak xf xg)]) (rx := [(xo_0_rii ac be (nI qn_8) (nI zn_8)), (xJ be cL 24 fb), (xo_3_iiiiiiiirrrrr no nv0 nv1 nv2 nv3 (nI nhh) nv5 (nI nww) (nI nkk) nb1 nb2 nb3 nb4 nb5), (xI nb1 cI 6 ng1), (xI nb2 cI 6 ng2), (xI nb3 cI 6 ng3), (xI nb4 cI 6 ng4), (xI nb5 cI 6 ng5)]) (pl1 := lvs cI 24 ad bd Vn_8 Gn_8) hP hD [7, 8, 1, 2, 3, 4, 5, 6] [0] rfl rfl (by decide +kernel) (by decide +kernel) hk1 hc_8.2.2 hP1 hD1
        generalize H1 = H at hP hS ⊢
        have hP : va_P (dC, dI) vwCl (([(xo_7_rrrrrrrrrii x ro ta no ac im tr pl cs ak xf xg), (xo_0_rii ac be (nI qn_8) (nI zn_8)), (xJ be cL 24 fb), (xo_3_iiiiiiiirrrrr no nv0 nv1 nv2 nv3 (nI nhh) nv5 (nI nww) (nI nkk) nb1 nb2 nb3 nb4 nb5), (xI nb1 cI 6 ng1), (xI nb2 cI 6 ng2), (xI nb3 cI 6 ng3), (xI nb4 cI 6 ng4), (xI nb5 cI 6 ng5)] : va_W) ++ lvs cI 24 ad bd Vn_8 Gn_8) H := hP
        have hD := dto hP hD
        refine lv_aload_n hx hb dX7_wind_44 rfl (lv_at hl 1 rfl) ?_
        refine va_get (D := (dC, dI)) (ci := 7) (v := .ref no) (C := RX7) (T := TX7) (N := 11) hx hb hts i_X7_wind_X7 hown hK hP 0 rfl rfl 2 (by decide) (hts _ mx_X7_wind_1) (fun _ h9 => h9) rfl dX7_wind_45 ?_
        refine va_get (D := (dC, dI)) (ci := 3) (v := .ref nb1) (C := RX3) (T := TX3) (N := 13) hx hb hts i_X7_wind_X3 hown hK hP 3 rfl rfl 8 (by decide) (hts _ mx_X7_wind_3) (fun _ h9 => h9) rfl dX7_wind_48 ?_
        refine lv_iload_n hx hb dX7_wind_51 rfl (lv_at hl 2 rfl) ?_
        refine lv_iload_n hx hb dX7_wind_52 rfl (lv_at hl 3 rfl) ?_
        refine va_iast hx hb hK hP hD hS 4 0 rfl rfl (vp_in_nI (by omega) (by omega)) dX7_wind_53 (fun H locs hP hD hS => ?_)
        generalize hg_9 : upd ng1 ((nI j_1) : Int32).toNatClampNeg k1 = g_9 at hP hD
        have hu_9 : g_9 = upd ng1 j_1 k1 := (by rw [← hg_9, nI_clamp (by omega)])
        have hP : va_P (dC, dI) vwCl (([(xo_7_rrrrrrrrrii x ro ta no ac im tr pl cs ak xf xg), (xo_0_rii ac be (nI qn_8) (nI zn_8)), (xJ be cL 24 fb), (xo_3_iiiiiiiirrrrr no nv0 nv1 nv2 nv3 (nI nhh) nv5 (nI nww) (nI nkk) nb1 nb2 nb3 nb4 nb5), (xI nb1 cI 6 g_9), (xI nb2 cI 6 ng2), (xI nb3 cI 6 ng3), (xI nb4 cI 6 ng4), (xI nb5 cI 6 ng5)] : va_W) ++ lvs cI 24 ad bd Vn_8 Gn_8) H := hP
        have hD := dto hP hD
        refine lv_iload_n hx hb dX7_wind_54 rfl (lv_at hl 0 rfl) ?_
        have hX9 := cut2P (cx := [(xo_7_rrrrrrrrrii x ro ta no ac im tr pl cs ak xf xg), (xo_3_iiiiiiiirrrrr no nv0 nv1 nv2 nv3 (nI nhh) nv5 (nI nww) (nI nkk) nb1 nb2 nb3 nb4 nb5), (xI nb1 cI 6 g_9), (xI nb2 cI 6 ng2), (xI nb3 cI 6 ng3), (xI nb4 cI 6 ng4), (xI nb5 cI 6 ng5), (xo_0_rii ac be (nI qn_8) (nI zn_8)), (xJ be cL 24 fb)]) hP hD [0, 3, 4, 5, 6, 7, 8, 1, 2] (by decide +kernel) rfl
        exact W.iret (v := v_7) hx hb hr (fun t ht hW => ⟨⟨v_7, (), rfl, (lf_X7_wind_12 nhb nwb nkb hLv hfb hok hq haz hj_1 c_5 c_6 e_7 hF_8_0 hF_8_1 hF_8_2 hF_8_3 hF_8_4 hF_8_5 hF_8_6 hu_9), ⟨Vn_8, Gn_8, nv0, nv1, nv2, nv3, nv5, g_9, ng2, ng3, ng4, ng5, nhh, nww, nkk, qn_8, zn_8, va_Ht ht hX9.1, hX9.2, hF_8_0, (by omega), (by omega), (by omega), (by omega), (by omega), (lf_X7_wind_9 nhb nwb nkb hLv hfb hok hq haz hj_1 c_5 c_6 e_7 hF_8_0 hF_8_1 hF_8_2 hF_8_3 hF_8_4 hF_8_5 hF_8_6 hu_9), (lf_X7_wind_10 nhb nwb nkb hLv hfb hok hq haz hj_1 c_5 c_6 e_7 hF_8_0 hF_8_1 hF_8_2 hF_8_3 hF_8_4 hF_8_5 hF_8_6 hu_9), (lf_X7_wind_11 nhb nwb nkb hLv hfb hok hq haz hj_1 c_5 c_6 e_7 hF_8_0 hF_8_1 hF_8_2 hF_8_3 hF_8_4 hF_8_5 hF_8_6 hu_9)⟩⟩, hS.F ht⟩) hS.2.2 dX7_wind_55
      · skip
        refine lv_ldc (own := RX7) (v := (-1000001)) hx hb hown (hts _ mx_X7_wind_2) dX7_wind_20 ?_
        have hX9 := cut2P (cx := [(xo_7_rrrrrrrrrii x ro ta no ac im tr pl cs ak xf xg), (xo_3_iiiiiiiirrrrr no nv0 nv1 nv2 nv3 (nI nhh) nv5 (nI nww) (nI nkk) nb1 nb2 nb3 nb4 nb5), (xI nb1 cI 6 ng1), (xI nb2 cI 6 ng2), (xI nb3 cI 6 ng3), (xI nb4 cI 6 ng4), (xI nb5 cI 6 ng5), (xo_0_rii ac be (nI q) (nI az)), (xJ be cL 24 fb)]) hP hD [0, 1, 2, 3, 4, 5, 6, 7, 8] (by decide +kernel) rfl
        exact W.iret (v := (-1000001)) hx hb hr (fun t ht hW => ⟨⟨(-1000001), (), rfl, (lf_X7_wind_16 nhb nwb nkb hLv hfb hok hq haz hj_1 c_5 c_6), ⟨V, G, nv0, nv1, nv2, nv3, nv5, ng1, ng2, ng3, ng4, ng5, nhh, nww, nkk, q, az, va_Ht ht hX9.1, hX9.2, hok, (by omega), (by omega), (by omega), (by omega), (by omega), (lf_X7_wind_13 nhb nwb nkb hLv hfb hok hq haz hj_1 c_5 c_6), (lf_X7_wind_14 nhb nwb nkb hLv hfb hok hq haz hj_1 c_5 c_6), (lf_X7_wind_15 nhb nwb nkb hLv hfb hok hq haz hj_1 c_5 c_6)⟩⟩, hS.F ht⟩) hS.2.2 dX7_wind_22
-- 30.mill3a_d
theorem dX7_loose_0 : decode cX7_loose 0 = .ok (.aload_n 0, 1) := dq_42 (by decide +kernel)
theorem dX7_loose_1 : decode cX7_loose 1 = .ok (.getfield 26, 3) := dq_180 (b1 := 0) (b2 := 26) (by decide +kernel) (by decide)
theorem dX7_loose_11 : decode cX7_loose 11 = .ok (.aload_n 0, 1) := dq_42 (by decide +kernel)
theorem dX7_loose_12 : decode cX7_loose 12 = .ok (.getfield 26, 3) := dq_180 (b1 := 0) (b2 := 26) (by decide +kernel) (by decide)
theorem dX7_loose_15 : decode cX7_loose 15 = .ok (.iload_n 2, 1) := dq_28 (by decide +kernel)
theorem dX7_loose_16 : decode cX7_loose 16 = .ok (.invokevirtual 176, 3) := dq_182 (b1 := 0) (b2 := 176) (by decide +kernel) (by decide)
theorem dX7_loose_19 : decode cX7_loose 19 = .ok (.ifCond .eq 14, 3) := dq_153 (b1 := 0) (b2 := 14) (by decide +kernel) (by decide)
theorem dX7_loose_22 : decode cX7_loose 22 = .ok (.iload_n 3, 1) := dq_29 (by decide +kernel)
theorem dX7_loose_23 : decode cX7_loose 23 = .ok (.iconst 1, 1) := dq_4 (by decide +kernel)
theorem dX7_loose_24 : decode cX7_loose 24 = .ok (.if_icmp .lt 9, 3) := dq_161 (b1 := 0) (b2 := 9) (by decide +kernel) (by decide)
theorem dX7_loose_27 : decode cX7_loose 27 = .ok (.iload_n 3, 1) := dq_29 (by decide +kernel)
theorem dX7_loose_28 : decode cX7_loose 28 = .ok (.bipush 20, 2) := dq_16 (b1 := 20) (by decide +kernel) (by decide)
theorem dX7_loose_30 : decode cX7_loose 30 = .ok (.if_icmp .le 6, 3) := dq_164 (b1 := 0) (b2 := 6) (by decide +kernel) (by decide)
theorem dX7_loose_33 : decode cX7_loose 33 = .ok (.ldc 72, 2) := dq_18 (b1 := 72) (by decide +kernel) (by decide)
theorem dX7_loose_35 : decode cX7_loose 35 = .ok (.ireturn, 1) := dq_172 (by decide +kernel)
theorem dX7_loose_36 : decode cX7_loose 36 = .ok (.aload_n 0, 1) := dq_42 (by decide +kernel)
theorem dX7_loose_37 : decode cX7_loose 37 = .ok (.getfield 26, 3) := dq_180 (b1 := 0) (b2 := 26) (by decide +kernel) (by decide)
theorem dX7_loose_4 : decode cX7_loose 4 = .ok (.iload_n 1, 1) := dq_27 (by decide +kernel)
theorem dX7_loose_40 : decode cX7_loose 40 = .ok (.iload_n 1, 1) := dq_27 (by decide +kernel)
theorem dX7_loose_41 : decode cX7_loose 41 = .ok (.invokevirtual 179, 3) := dq_182 (b1 := 0) (b2 := 179) (by decide +kernel) (by decide)
theorem dX7_loose_44 : decode cX7_loose 44 = .ok (.ifCond .eq 6, 3) := dq_153 (b1 := 0) (b2 := 6) (by decide +kernel) (by decide)
theorem dX7_loose_47 : decode cX7_loose 47 = .ok (.ldc 141, 2) := dq_18 (b1 := 141) (by decide +kernel) (by decide)
theorem dX7_loose_49 : decode cX7_loose 49 = .ok (.ireturn, 1) := dq_172 (by decide +kernel)
theorem dX7_loose_5 : decode cX7_loose 5 = .ok (.invokevirtual 173, 3) := dq_182 (b1 := 0) (b2 := 173) (by decide +kernel) (by decide)
theorem dX7_loose_50 : decode cX7_loose 50 = .ok (.aload_n 0, 1) := dq_42 (by decide +kernel)
theorem dX7_loose_51 : decode cX7_loose 51 = .ok (.getfield 33, 3) := dq_180 (b1 := 0) (b2 := 33) (by decide +kernel) (by decide)
theorem dX7_loose_54 : decode cX7_loose 54 = .ok (.aload_n 0, 1) := dq_42 (by decide +kernel)
theorem dX7_loose_55 : decode cX7_loose 55 = .ok (.getfield 26, 3) := dq_180 (b1 := 0) (b2 := 26) (by decide +kernel) (by decide)
theorem dX7_loose_58 : decode cX7_loose 58 = .ok (.invokevirtual 151, 3) := dq_182 (b1 := 0) (b2 := 151) (by decide +kernel) (by decide)
theorem dX7_loose_61 : decode cX7_loose 61 = .ok (.aload_n 0, 1) := dq_42 (by decide +kernel)
theorem dX7_loose_62 : decode cX7_loose 62 = .ok (.getfield 26, 3) := dq_180 (b1 := 0) (b2 := 26) (by decide +kernel) (by decide)
theorem dX7_loose_65 : decode cX7_loose 65 = .ok (.iload_n 1, 1) := dq_27 (by decide +kernel)
theorem dX7_loose_66 : decode cX7_loose 66 = .ok (.iload_n 2, 1) := dq_28 (by decide +kernel)
theorem dX7_loose_67 : decode cX7_loose 67 = .ok (.iload_n 3, 1) := dq_29 (by decide +kernel)
theorem dX7_loose_68 : decode cX7_loose 68 = .ok (.invokevirtual 182, 3) := dq_182 (b1 := 0) (b2 := 182) (by decide +kernel) (by decide)
theorem dX7_loose_71 : decode cX7_loose 71 = .ok (.aload_n 0, 1) := dq_42 (by decide +kernel)
theorem dX7_loose_72 : decode cX7_loose 72 = .ok (.getfield 26, 3) := dq_180 (b1 := 0) (b2 := 26) (by decide +kernel) (by decide)
theorem dX7_loose_75 : decode cX7_loose 75 = .ok (.iconst 0, 1) := dq_3 (by decide +kernel)
theorem dX7_loose_76 : decode cX7_loose 76 = .ok (.invokevirtual 185, 3) := dq_182 (b1 := 0) (b2 := 185) (by decide +kernel) (by decide)
theorem dX7_loose_79 : decode cX7_loose 79 = .ok (.ireturn, 1) := dq_172 (by decide +kernel)
theorem dX7_loose_8 : decode cX7_loose 8 = .ok (.ifCond .eq 25, 3) := dq_153 (b1 := 0) (b2 := 25) (by decide +kernel) (by decide)
theorem dX7_sell_0 : decode cX7_sell 0 = .ok (.aload_n 0, 1) := dq_42 (by decide +kernel)
theorem dX7_sell_1 : decode cX7_sell 1 = .ok (.getfield 26, 3) := dq_180 (b1 := 0) (b2 := 26) (by decide +kernel) (by decide)
theorem dX7_sell_10 : decode cX7_sell 10 = .ok (.ldc 141, 2) := dq_18 (b1 := 141) (by decide +kernel) (by decide)
theorem dX7_sell_12 : decode cX7_sell 12 = .ok (.ireturn, 1) := dq_172 (by decide +kernel)
theorem dX7_sell_13 : decode cX7_sell 13 = .ok (.iload_n 1, 1) := dq_27 (by decide +kernel)
theorem dX7_sell_14 : decode cX7_sell 14 = .ok (.iconst 1, 1) := dq_4 (by decide +kernel)
theorem dX7_sell_15 : decode cX7_sell 15 = .ok (.if_icmp .lt 10, 3) := dq_161 (b1 := 0) (b2 := 10) (by decide +kernel) (by decide)
theorem dX7_sell_18 : decode cX7_sell 18 = .ok (.iload_n 1, 1) := dq_27 (by decide +kernel)
theorem dX7_sell_19 : decode cX7_sell 19 = .ok (.sipush 999, 3) := dq_17 (b1 := 3) (b2 := 231) (by decide +kernel) (by decide)
theorem dX7_sell_22 : decode cX7_sell 22 = .ok (.if_icmp .le 6, 3) := dq_164 (b1 := 0) (b2 := 6) (by decide +kernel) (by decide)
theorem dX7_sell_25 : decode cX7_sell 25 = .ok (.ldc 72, 2) := dq_18 (b1 := 72) (by decide +kernel) (by decide)
theorem dX7_sell_27 : decode cX7_sell 27 = .ok (.ireturn, 1) := dq_172 (by decide +kernel)
theorem dX7_sell_28 : decode cX7_sell 28 = .ok (.aload_n 0, 1) := dq_42 (by decide +kernel)
theorem dX7_sell_29 : decode cX7_sell 29 = .ok (.getfield 26, 3) := dq_180 (b1 := 0) (b2 := 26) (by decide +kernel) (by decide)
theorem dX7_sell_32 : decode cX7_sell 32 = .ok (.getfield 157, 3) := dq_180 (b1 := 0) (b2 := 157) (by decide +kernel) (by decide)
theorem dX7_sell_35 : decode cX7_sell 35 = .ok (.iload_n 1, 1) := dq_27 (by decide +kernel)
theorem dX7_sell_36 : decode cX7_sell 36 = .ok (.if_icmp .ge 6, 3) := dq_162 (b1 := 0) (b2 := 6) (by decide +kernel) (by decide)
theorem dX7_sell_39 : decode cX7_sell 39 = .ok (.ldc 141, 2) := dq_18 (b1 := 141) (by decide +kernel) (by decide)
theorem dX7_sell_4 : decode cX7_sell 4 = .ok (.invokevirtual 145, 3) := dq_182 (b1 := 0) (b2 := 145) (by decide +kernel) (by decide)
theorem dX7_sell_41 : decode cX7_sell 41 = .ok (.ireturn, 1) := dq_172 (by decide +kernel)
theorem dX7_sell_42 : decode cX7_sell 42 = .ok (.aload_n 0, 1) := dq_42 (by decide +kernel)
theorem dX7_sell_43 : decode cX7_sell 43 = .ok (.getfield 33, 3) := dq_180 (b1 := 0) (b2 := 33) (by decide +kernel) (by decide)
theorem dX7_sell_46 : decode cX7_sell 46 = .ok (.aload_n 0, 1) := dq_42 (by decide +kernel)
theorem dX7_sell_47 : decode cX7_sell 47 = .ok (.getfield 26, 3) := dq_180 (b1 := 0) (b2 := 26) (by decide +kernel) (by decide)
theorem dX7_sell_50 : decode cX7_sell 50 = .ok (.invokevirtual 151, 3) := dq_182 (b1 := 0) (b2 := 151) (by decide +kernel) (by decide)
theorem dX7_sell_53 : decode cX7_sell 53 = .ok (.aload_n 0, 1) := dq_42 (by decide +kernel)
theorem dX7_sell_54 : decode cX7_sell 54 = .ok (.getfield 26, 3) := dq_180 (b1 := 0) (b2 := 26) (by decide +kernel) (by decide)
theorem dX7_sell_57 : decode cX7_sell 57 = .ok (.dup, 1) := dq_89 (by decide +kernel)
theorem dX7_sell_58 : decode cX7_sell 58 = .ok (.getfield 157, 3) := dq_180 (b1 := 0) (b2 := 157) (by decide +kernel) (by decide)
theorem dX7_sell_61 : decode cX7_sell 61 = .ok (.iload_n 1, 1) := dq_27 (by decide +kernel)
theorem dX7_sell_62 : decode cX7_sell 62 = .ok (.isub, 1) := dq_100 (by decide +kernel)
theorem dX7_sell_63 : decode cX7_sell 63 = .ok (.putfield 157, 3) := dq_181 (b1 := 0) (b2 := 157) (by decide +kernel) (by decide)
theorem dX7_sell_66 : decode cX7_sell 66 = .ok (.aload_n 0, 1) := dq_42 (by decide +kernel)
theorem dX7_sell_67 : decode cX7_sell 67 = .ok (.getfield 26, 3) := dq_180 (b1 := 0) (b2 := 26) (by decide +kernel) (by decide)
theorem dX7_sell_7 : decode cX7_sell 7 = .ok (.ifCond .ne 6, 3) := dq_154 (b1 := 0) (b2 := 6) (by decide +kernel) (by decide)
theorem dX7_sell_70 : decode cX7_sell 70 = .ok (.getfield 157, 3) := dq_180 (b1 := 0) (b2 := 157) (by decide +kernel) (by decide)
theorem dX7_sell_73 : decode cX7_sell 73 = .ok (.ireturn, 1) := dq_172 (by decide +kernel)
theorem mb_X7_loose_wsX7_loose_r2 {w : Cond} (h : w ∈ wsX7_loose_r2) : w ∈ wsX7_loose := by unfold wsX7_loose; exact List.mem_cons_of_mem _ (List.mem_append_left _ (List.mem_append_left _ (List.mem_append_left _ (List.mem_append_right _ (List.mem_append_left _ (h))))))
theorem mx_X7_loose_25 : Cond.code yX0_keep cX0_keep 2 none ∈ wsX7_loose := mb_X7_loose_wsX7_loose_r2 (List.mem_of_getElem? (i := 0) rfl)
theorem mx_X7_loose_26 : Cond.fieldLink RX0 11 "MillTalk$Acts" "before" "[LMillTalk$Level;" ∈ wsX7_loose := mb_X7_loose_wsX7_loose_r2 (List.mem_of_getElem? (i := 1) rfl)
theorem mx_X7_loose_27 : Cond.fieldLink RX0 20 "MillTalk$Acts" "next" "I" ∈ wsX7_loose := mb_X7_loose_wsX7_loose_r2 (List.mem_of_getElem? (i := 2) rfl)
theorem mx_X7_loose_28 : Cond.fieldLink RX0 16 "MillTalk$Acts" "size" "I" ∈ wsX7_loose := mb_X7_loose_wsX7_loose_r2 (List.mem_of_getElem? (i := 3) rfl)
theorem mx_X7_loose_29 : Cond.methodLink RX0 27 Lib.Math.min.name ∈ wsX7_loose := mb_X7_loose_wsX7_loose_r2 (List.mem_of_getElem? (i := 4) rfl)
theorem mx_X7_loose_30 : Cond.static Lib.Math.min.name ∈ wsX7_loose := mb_X7_loose_wsX7_loose_r2 (List.mem_of_getElem? (i := 5) rfl)
theorem mx_X7_loose_31 : Cond.initialized "java/lang/Math" ∈ wsX7_loose := mb_X7_loose_wsX7_loose_r2 (List.mem_of_getElem? (i := 6) rfl)
theorem mx_X7_loose_32 : Cond.code Lib.Math.min.name Lib.Math.min.code 2 (some .int) ∈ wsX7_loose := mb_X7_loose_wsX7_loose_r2 (List.mem_of_getElem? (i := 7) rfl)
theorem mx_X7_loose_33 : Cond.methodLink RX0 23 yX3_becomeLike ∈ wsX7_loose := mb_X7_loose_wsX7_loose_r2 (List.mem_of_getElem? (i := 8) rfl)
theorem mx_X7_loose_34 : Cond.instanceMethod yX3_becomeLike ∈ wsX7_loose := mb_X7_loose_wsX7_loose_r2 (List.mem_of_getElem? (i := 9) rfl)
theorem mx_X7_loose_35 : Cond.selects RX3 yX3_becomeLike yX3_becomeLike ∈ wsX7_loose := mb_X7_loose_wsX7_loose_r2 (List.mem_of_getElem? (i := 10) rfl)
theorem mb_X7_loose_wsX7_loose_r1 {w : Cond} (h : w ∈ wsX7_loose_r1) : w ∈ wsX7_loose := by unfold wsX7_loose; exact List.mem_cons_of_mem _ (List.mem_append_left _ (List.mem_append_left _ (List.mem_append_left _ (List.mem_append_left _ (h)))))
theorem mx_X7_loose_8 : Cond.initialized RX3 ∈ wsX7_loose := mb_X7_loose_wsX7_loose_r1 (List.mem_of_getElem? (i := 7) rfl)
theorem mx_X7_loose_36 : Cond.code yX3_becomeLike cX3_becomeLike 2 none ∈ wsX7_loose := mb_X7_loose_wsX7_loose_r2 (List.mem_of_getElem? (i := 11) rfl)
theorem mx_X7_loose_15 : Cond.fieldLink RX3 27 "MillTalk$Level" "cells" "I" ∈ wsX7_loose := mb_X7_loose_wsX7_loose_r1 (List.mem_of_getElem? (i := 14) rfl)
theorem mx_X7_loose_37 : Cond.fieldLink RX3 31 "MillTalk$Level" "mill" "I" ∈ wsX7_loose := mb_X7_loose_wsX7_loose_r2 (List.mem_of_getElem? (i := 12) rfl)
theorem mx_X7_loose_38 : Cond.fieldLink RX3 34 "MillTalk$Level" "reach" "I" ∈ wsX7_loose := mb_X7_loose_wsX7_loose_r2 (List.mem_of_getElem? (i := 13) rfl)
theorem mx_X7_loose_39 : Cond.fieldLink RX3 37 "MillTalk$Level" "cap" "I" ∈ wsX7_loose := mb_X7_loose_wsX7_loose_r2 (List.mem_of_getElem? (i := 14) rfl)
theorem mx_X7_loose_40 : Cond.fieldLink RX3 40 "MillTalk$Level" "hour" "I" ∈ wsX7_loose := mb_X7_loose_wsX7_loose_r2 (List.mem_of_getElem? (i := 15) rfl)
theorem mx_X7_loose_41 : Cond.fieldLink RX3 43 "MillTalk$Level" "meal" "I" ∈ wsX7_loose := mb_X7_loose_wsX7_loose_r2 (List.mem_of_getElem? (i := 16) rfl)
theorem mx_X7_loose_42 : Cond.fieldLink RX3 46 "MillTalk$Level" "windCount" "I" ∈ wsX7_loose := mb_X7_loose_wsX7_loose_r2 (List.mem_of_getElem? (i := 17) rfl)
theorem mx_X7_loose_10 : Cond.fieldLink RX3 49 "MillTalk$Level" "soundCount" "I" ∈ wsX7_loose := mb_X7_loose_wsX7_loose_r1 (List.mem_of_getElem? (i := 9) rfl)
theorem mx_X7_loose_43 : Cond.fieldLink RX3 9 "MillTalk$Level" "winds" "[I" ∈ wsX7_loose := mb_X7_loose_wsX7_loose_r2 (List.mem_of_getElem? (i := 18) rfl)
theorem mx_X7_loose_44 : Cond.methodLink RX3 52 arraycopyName ∈ wsX7_loose := mb_X7_loose_wsX7_loose_r2 (List.mem_of_getElem? (i := 19) rfl)
theorem mx_X7_loose_45 : Cond.native arraycopyName ∈ wsX7_loose := mb_X7_loose_wsX7_loose_r2 (List.mem_of_getElem? (i := 20) rfl)
theorem mx_X7_loose_46 : Cond.static arraycopyName ∈ wsX7_loose := mb_X7_loose_wsX7_loose_r2 (List.mem_of_getElem? (i := 21) rfl)
theorem mx_X7_loose_47 : Cond.initialized "java/lang/System" ∈ wsX7_loose := mb_X7_loose_wsX7_loose_r2 (List.mem_of_getElem? (i := 22) rfl)
theorem mx_X7_loose_48 : Cond.fieldLink RX3 15 "MillTalk$Level" "kinds" "[I" ∈ wsX7_loose := mb_X7_loose_wsX7_loose_r2 (List.mem_of_getElem? (i := 23) rfl)
theorem mb_X7_loose_wsX7_loose_r3 {w : Cond} (h : w ∈ wsX7_loose_r3) : w ∈ wsX7_loose := by unfold wsX7_loose; exact List.mem_cons_of_mem _ (List.mem_append_left _ (List.mem_append_left _ (List.mem_append_left _ (List.mem_append_right _ (List.mem_append_right _ (h))))))
theorem mx_X7_loose_49 : Cond.fieldLink RX3 18 "MillTalk$Level" "places" "[I" ∈ wsX7_loose := mb_X7_loose_wsX7_loose_r3 (List.mem_of_getElem? (i := 0) rfl)
theorem mx_X7_loose_50 : Cond.fieldLink RX3 21 "MillTalk$Level" "louds" "[I" ∈ wsX7_loose := mb_X7_loose_wsX7_loose_r3 (List.mem_of_getElem? (i := 1) rfl)
theorem mx_X7_loose_20 : Cond.fieldLink RX3 24 "MillTalk$Level" "hows" "[I" ∈ wsX7_loose := mb_X7_loose_wsX7_loose_r1 (List.mem_of_getElem? (i := 19) rfl)
theorem mb_X7_loose_wsX00 {w : Cond} (h : w ∈ wsX00) : w ∈ wsX7_loose := by unfold wsX7_loose; exact List.mem_cons_of_mem _ (List.mem_append_right _ (h))
theorem mb_X7_loose_wsX30 {w : Cond} (h : w ∈ wsX30) : w ∈ wsX7_loose := by unfold wsX7_loose; exact List.mem_cons_of_mem _ (List.mem_append_left _ (List.mem_append_right _ (h)))
theorem ggX7_loose_X0_keep : GoodIn wsX7_loose wsX0_keep := goodIn_sub (by unfold wsX0_keep; exact List.forall_mem_cons.mpr ⟨mx_X7_loose_25, List.forall_mem_append.mpr ⟨List.forall_mem_append.mpr ⟨List.forall_mem_append.mpr ⟨(by unfold wsX0_keep_r1; exact List.forall_mem_cons.mpr ⟨mx_X7_loose_26, List.forall_mem_cons.mpr ⟨mx_X7_loose_27, List.forall_mem_cons.mpr ⟨mx_X7_loose_28, List.forall_mem_cons.mpr ⟨mx_X7_loose_29, List.forall_mem_cons.mpr ⟨mx_X7_loose_30, List.forall_mem_cons.mpr ⟨mx_X7_loose_31, List.forall_mem_cons.mpr ⟨mx_X7_loose_32, List.forall_mem_cons.mpr ⟨mx_X7_loose_33, List.forall_mem_cons.mpr ⟨mx_X7_loose_34, List.forall_mem_cons.mpr ⟨mx_X7_loose_35, List.forall_mem_cons.mpr ⟨mx_X7_loose_8, List.forall_mem_cons.mpr ⟨mx_X7_loose_36, List.forall_mem_cons.mpr ⟨mx_X7_loose_15, List.forall_mem_cons.mpr ⟨mx_X7_loose_37, List.forall_mem_cons.mpr ⟨mx_X7_loose_38, List.forall_mem_cons.mpr ⟨mx_X7_loose_39, List.forall_mem_cons.mpr ⟨mx_X7_loose_40, List.forall_mem_cons.mpr ⟨mx_X7_loose_41, List.forall_mem_cons.mpr ⟨mx_X7_loose_42, List.forall_mem_cons.mpr ⟨mx_X7_loose_10, List.forall_mem_cons.mpr ⟨mx_X7_loose_43, List.forall_mem_cons.mpr ⟨mx_X7_loose_44, List.forall_mem_cons.mpr ⟨mx_X7_loose_45, List.forall_mem_cons.mpr ⟨mx_X7_loose_46, fun _ h_ => absurd h_ List.not_mem_nil⟩⟩⟩⟩⟩⟩⟩⟩⟩⟩⟩⟩⟩⟩⟩⟩⟩⟩⟩⟩⟩⟩⟩⟩), (by unfold wsX0_keep_r2; exact List.forall_mem_cons.mpr ⟨mx_X7_loose_47, List.forall_mem_cons.mpr ⟨mx_X7_loose_48, List.forall_mem_cons.mpr ⟨mx_X7_loose_49, List.forall_mem_cons.mpr ⟨mx_X7_loose_50, List.forall_mem_cons.mpr ⟨mx_X7_loose_20, fun _ h_ => absurd h_ List.not_mem_nil⟩⟩⟩⟩⟩)⟩, (fun _ h_ => mb_X7_loose_wsX00 h_)⟩, (fun _ h_ => mb_X7_loose_wsX30 h_)⟩⟩) (by decide +kernel)
theorem mx_X7_loose_21 : Cond.methodLink RX7 151 yX0_keep ∈ wsX7_loose := mb_X7_loose_wsX7_loose_r1 (List.mem_of_getElem? (i := 20) rfl)
theorem mx_X7_loose_22 : Cond.instanceMethod yX0_keep ∈ wsX7_loose := mb_X7_loose_wsX7_loose_r1 (List.mem_of_getElem? (i := 21) rfl)
theorem mx_X7_loose_23 : Cond.selects RX0 yX0_keep yX0_keep ∈ wsX7_loose := mb_X7_loose_wsX7_loose_r1 (List.mem_of_getElem? (i := 22) rfl)
theorem mx_X7_loose_24 : Cond.initialized RX0 ∈ wsX7_loose := mb_X7_loose_wsX7_loose_r1 (List.mem_of_getElem? (i := 23) rfl)
theorem gX7_loose_X0_keep : GoodIn wsX7_loose (wsV RX7 151 RX0 yX0_keep wsX0_keep) := goodIn_app (goodIn_sub (List.forall_mem_cons.mpr ⟨mx_X7_loose_21, List.forall_mem_cons.mpr ⟨mx_X7_loose_22, List.forall_mem_cons.mpr ⟨mx_X7_loose_23, List.forall_mem_cons.mpr ⟨mx_X7_loose_24, fun _ h_ => absurd h_ List.not_mem_nil⟩⟩⟩⟩) (by decide +kernel)) ggX7_loose_X0_keep
theorem mx_X7_loose_14 : Cond.code yX3_hasCell cX3_hasCell 2 (some .boolean) ∈ wsX7_loose := mb_X7_loose_wsX7_loose_r1 (List.mem_of_getElem? (i := 13) rfl)
theorem ggX7_loose_X3_hasCell : GoodIn wsX7_loose wsX3_hasCell := goodIn_sub (by unfold wsX3_hasCell; exact List.forall_mem_cons.mpr ⟨mx_X7_loose_14, List.forall_mem_append.mpr ⟨List.forall_mem_cons.mpr ⟨mx_X7_loose_15, fun _ h_ => absurd h_ List.not_mem_nil⟩, (fun _ h_ => mb_X7_loose_wsX30 h_)⟩⟩) (by decide +kernel)
theorem mx_X7_loose_11 : Cond.methodLink RX7 176 yX3_hasCell ∈ wsX7_loose := mb_X7_loose_wsX7_loose_r1 (List.mem_of_getElem? (i := 10) rfl)
theorem mx_X7_loose_12 : Cond.instanceMethod yX3_hasCell ∈ wsX7_loose := mb_X7_loose_wsX7_loose_r1 (List.mem_of_getElem? (i := 11) rfl)
theorem mx_X7_loose_13 : Cond.selects RX3 yX3_hasCell yX3_hasCell ∈ wsX7_loose := mb_X7_loose_wsX7_loose_r1 (List.mem_of_getElem? (i := 12) rfl)
theorem gX7_loose_X3_hasCell : GoodIn wsX7_loose (wsV RX7 176 RX3 yX3_hasCell wsX3_hasCell) := goodIn_app (goodIn_sub (List.forall_mem_cons.mpr ⟨mx_X7_loose_11, List.forall_mem_cons.mpr ⟨mx_X7_loose_12, List.forall_mem_cons.mpr ⟨mx_X7_loose_13, List.forall_mem_cons.mpr ⟨mx_X7_loose_8, fun _ h_ => absurd h_ List.not_mem_nil⟩⟩⟩⟩) (by decide +kernel)) ggX7_loose_X3_hasCell
theorem mx_X7_loose_9 : Cond.code yX3_hasSound cX3_hasSound 2 (some .boolean) ∈ wsX7_loose := mb_X7_loose_wsX7_loose_r1 (List.mem_of_getElem? (i := 8) rfl)
theorem ggX7_loose_X3_hasSound : GoodIn wsX7_loose wsX3_hasSound := goodIn_sub (by unfold wsX3_hasSound; exact List.forall_mem_cons.mpr ⟨mx_X7_loose_9, List.forall_mem_append.mpr ⟨List.forall_mem_cons.mpr ⟨mx_X7_loose_10, fun _ h_ => absurd h_ List.not_mem_nil⟩, (fun _ h_ => mb_X7_loose_wsX30 h_)⟩⟩) (by decide +kernel)
theorem mx_X7_loose_5 : Cond.methodLink RX7 173 yX3_hasSound ∈ wsX7_loose := mb_X7_loose_wsX7_loose_r1 (List.mem_of_getElem? (i := 4) rfl)
theorem mx_X7_loose_6 : Cond.instanceMethod yX3_hasSound ∈ wsX7_loose := mb_X7_loose_wsX7_loose_r1 (List.mem_of_getElem? (i := 5) rfl)
theorem mx_X7_loose_7 : Cond.selects RX3 yX3_hasSound yX3_hasSound ∈ wsX7_loose := mb_X7_loose_wsX7_loose_r1 (List.mem_of_getElem? (i := 6) rfl)
theorem gX7_loose_X3_hasSound : GoodIn wsX7_loose (wsV RX7 173 RX3 yX3_hasSound wsX3_hasSound) := goodIn_app (goodIn_sub (List.forall_mem_cons.mpr ⟨mx_X7_loose_5, List.forall_mem_cons.mpr ⟨mx_X7_loose_6, List.forall_mem_cons.mpr ⟨mx_X7_loose_7, List.forall_mem_cons.mpr ⟨mx_X7_loose_8, fun _ h_ => absurd h_ List.not_mem_nil⟩⟩⟩⟩) (by decide +kernel)) ggX7_loose_X3_hasSound
theorem mx_X7_loose_19 : Cond.code yX3_isLoose cX3_isLoose 2 (some .boolean) ∈ wsX7_loose := mb_X7_loose_wsX7_loose_r1 (List.mem_of_getElem? (i := 18) rfl)
theorem ggX7_loose_X3_isLoose : GoodIn wsX7_loose wsX3_isLoose := goodIn_sub (by unfold wsX3_isLoose; exact List.forall_mem_cons.mpr ⟨mx_X7_loose_19, List.forall_mem_append.mpr ⟨List.forall_mem_cons.mpr ⟨mx_X7_loose_20, fun _ h_ => absurd h_ List.not_mem_nil⟩, (fun _ h_ => mb_X7_loose_wsX30 h_)⟩⟩) (by decide +kernel)
theorem mx_X7_loose_16 : Cond.methodLink RX7 179 yX3_isLoose ∈ wsX7_loose := mb_X7_loose_wsX7_loose_r1 (List.mem_of_getElem? (i := 15) rfl)
theorem mx_X7_loose_17 : Cond.instanceMethod yX3_isLoose ∈ wsX7_loose := mb_X7_loose_wsX7_loose_r1 (List.mem_of_getElem? (i := 16) rfl)
theorem mx_X7_loose_18 : Cond.selects RX3 yX3_isLoose yX3_isLoose ∈ wsX7_loose := mb_X7_loose_wsX7_loose_r1 (List.mem_of_getElem? (i := 17) rfl)
theorem gX7_loose_X3_isLoose : GoodIn wsX7_loose (wsV RX7 179 RX3 yX3_isLoose wsX3_isLoose) := goodIn_app (goodIn_sub (List.forall_mem_cons.mpr ⟨mx_X7_loose_16, List.forall_mem_cons.mpr ⟨mx_X7_loose_17, List.forall_mem_cons.mpr ⟨mx_X7_loose_18, List.forall_mem_cons.mpr ⟨mx_X7_loose_8, fun _ h_ => absurd h_ List.not_mem_nil⟩⟩⟩⟩) (by decide +kernel)) ggX7_loose_X3_isLoose
theorem mx_X7_loose_54 : Cond.code yX3_letLoose cX3_letLoose 4 none ∈ wsX7_loose := mb_X7_loose_wsX7_loose_r3 (List.mem_of_getElem? (i := 5) rfl)
theorem ggX7_loose_X3_letLoose : GoodIn wsX7_loose wsX3_letLoose := goodIn_sub (by unfold wsX3_letLoose; exact List.forall_mem_cons.mpr ⟨mx_X7_loose_54, List.forall_mem_append.mpr ⟨List.forall_mem_cons.mpr ⟨mx_X7_loose_49, List.forall_mem_cons.mpr ⟨mx_X7_loose_50, List.forall_mem_cons.mpr ⟨mx_X7_loose_20, fun _ h_ => absurd h_ List.not_mem_nil⟩⟩⟩, (fun _ h_ => mb_X7_loose_wsX30 h_)⟩⟩) (by decide +kernel)
theorem mx_X7_loose_51 : Cond.methodLink RX7 182 yX3_letLoose ∈ wsX7_loose := mb_X7_loose_wsX7_loose_r3 (List.mem_of_getElem? (i := 2) rfl)
theorem mx_X7_loose_52 : Cond.instanceMethod yX3_letLoose ∈ wsX7_loose := mb_X7_loose_wsX7_loose_r3 (List.mem_of_getElem? (i := 3) rfl)
theorem mx_X7_loose_53 : Cond.selects RX3 yX3_letLoose yX3_letLoose ∈ wsX7_loose := mb_X7_loose_wsX7_loose_r3 (List.mem_of_getElem? (i := 4) rfl)
theorem gX7_loose_X3_letLoose : GoodIn wsX7_loose (wsV RX7 182 RX3 yX3_letLoose wsX3_letLoose) := goodIn_app (goodIn_sub (List.forall_mem_cons.mpr ⟨mx_X7_loose_51, List.forall_mem_cons.mpr ⟨mx_X7_loose_52, List.forall_mem_cons.mpr ⟨mx_X7_loose_53, List.forall_mem_cons.mpr ⟨mx_X7_loose_8, fun _ h_ => absurd h_ List.not_mem_nil⟩⟩⟩⟩) (by decide +kernel)) ggX7_loose_X3_letLoose
theorem mx_X7_loose_58 : Cond.code yX3_soundsThatAre cX3_soundsThatAre 4 (some .int) ∈ wsX7_loose := mb_X7_loose_wsX7_loose_r3 (List.mem_of_getElem? (i := 9) rfl)
theorem ggX7_loose_X3_soundsThatAre : GoodIn wsX7_loose wsX3_soundsThatAre := goodIn_sub (by unfold wsX3_soundsThatAre; exact List.forall_mem_cons.mpr ⟨mx_X7_loose_58, List.forall_mem_append.mpr ⟨List.forall_mem_cons.mpr ⟨mx_X7_loose_10, List.forall_mem_cons.mpr ⟨mx_X7_loose_20, fun _ h_ => absurd h_ List.not_mem_nil⟩⟩, (fun _ h_ => mb_X7_loose_wsX30 h_)⟩⟩) (by decide +kernel)
theorem mx_X7_loose_55 : Cond.methodLink RX7 185 yX3_soundsThatAre ∈ wsX7_loose := mb_X7_loose_wsX7_loose_r3 (List.mem_of_getElem? (i := 6) rfl)
theorem mx_X7_loose_56 : Cond.instanceMethod yX3_soundsThatAre ∈ wsX7_loose := mb_X7_loose_wsX7_loose_r3 (List.mem_of_getElem? (i := 7) rfl)
theorem mx_X7_loose_57 : Cond.selects RX3 yX3_soundsThatAre yX3_soundsThatAre ∈ wsX7_loose := mb_X7_loose_wsX7_loose_r3 (List.mem_of_getElem? (i := 8) rfl)
theorem gX7_loose_X3_soundsThatAre : GoodIn wsX7_loose (wsV RX7 185 RX3 yX3_soundsThatAre wsX3_soundsThatAre) := goodIn_app (goodIn_sub (List.forall_mem_cons.mpr ⟨mx_X7_loose_55, List.forall_mem_cons.mpr ⟨mx_X7_loose_56, List.forall_mem_cons.mpr ⟨mx_X7_loose_57, List.forall_mem_cons.mpr ⟨mx_X7_loose_8, fun _ h_ => absurd h_ List.not_mem_nil⟩⟩⟩⟩) (by decide +kernel)) ggX7_loose_X3_soundsThatAre
theorem mb_X7_sell_wsX7_sell_r1 {w : Cond} (h : w ∈ wsX7_sell_r1) : w ∈ wsX7_sell := by unfold wsX7_sell; exact List.mem_cons_of_mem _ (List.mem_append_left _ (List.mem_append_left _ (List.mem_append_left _ (List.mem_append_left _ (h)))))
theorem mx_X7_sell_16 : Cond.code yX0_keep cX0_keep 2 none ∈ wsX7_sell := mb_X7_sell_wsX7_sell_r1 (List.mem_of_getElem? (i := 15) rfl)
theorem mx_X7_sell_17 : Cond.fieldLink RX0 11 "MillTalk$Acts" "before" "[LMillTalk$Level;" ∈ wsX7_sell := mb_X7_sell_wsX7_sell_r1 (List.mem_of_getElem? (i := 16) rfl)
theorem mx_X7_sell_18 : Cond.fieldLink RX0 20 "MillTalk$Acts" "next" "I" ∈ wsX7_sell := mb_X7_sell_wsX7_sell_r1 (List.mem_of_getElem? (i := 17) rfl)
theorem mx_X7_sell_19 : Cond.fieldLink RX0 16 "MillTalk$Acts" "size" "I" ∈ wsX7_sell := mb_X7_sell_wsX7_sell_r1 (List.mem_of_getElem? (i := 18) rfl)
theorem mx_X7_sell_20 : Cond.methodLink RX0 27 Lib.Math.min.name ∈ wsX7_sell := mb_X7_sell_wsX7_sell_r1 (List.mem_of_getElem? (i := 19) rfl)
theorem mx_X7_sell_21 : Cond.static Lib.Math.min.name ∈ wsX7_sell := mb_X7_sell_wsX7_sell_r1 (List.mem_of_getElem? (i := 20) rfl)
theorem mx_X7_sell_22 : Cond.initialized "java/lang/Math" ∈ wsX7_sell := mb_X7_sell_wsX7_sell_r1 (List.mem_of_getElem? (i := 21) rfl)
theorem mx_X7_sell_23 : Cond.code Lib.Math.min.name Lib.Math.min.code 2 (some .int) ∈ wsX7_sell := mb_X7_sell_wsX7_sell_r1 (List.mem_of_getElem? (i := 22) rfl)
theorem mx_X7_sell_24 : Cond.methodLink RX0 23 yX3_becomeLike ∈ wsX7_sell := mb_X7_sell_wsX7_sell_r1 (List.mem_of_getElem? (i := 23) rfl)
theorem mb_X7_sell_wsX7_sell_r2 {w : Cond} (h : w ∈ wsX7_sell_r2) : w ∈ wsX7_sell := by unfold wsX7_sell; exact List.mem_cons_of_mem _ (List.mem_append_left _ (List.mem_append_left _ (List.mem_append_left _ (List.mem_append_right _ (h)))))
theorem mx_X7_sell_25 : Cond.instanceMethod yX3_becomeLike ∈ wsX7_sell := mb_X7_sell_wsX7_sell_r2 (List.mem_of_getElem? (i := 0) rfl)
theorem mx_X7_sell_26 : Cond.selects RX3 yX3_becomeLike yX3_becomeLike ∈ wsX7_sell := mb_X7_sell_wsX7_sell_r2 (List.mem_of_getElem? (i := 1) rfl)
theorem mx_X7_sell_9 : Cond.initialized RX3 ∈ wsX7_sell := mb_X7_sell_wsX7_sell_r1 (List.mem_of_getElem? (i := 8) rfl)
theorem mx_X7_sell_27 : Cond.code yX3_becomeLike cX3_becomeLike 2 none ∈ wsX7_sell := mb_X7_sell_wsX7_sell_r2 (List.mem_of_getElem? (i := 2) rfl)
theorem mx_X7_sell_11 : Cond.fieldLink RX3 27 "MillTalk$Level" "cells" "I" ∈ wsX7_sell := mb_X7_sell_wsX7_sell_r1 (List.mem_of_getElem? (i := 10) rfl)
theorem mx_X7_sell_28 : Cond.fieldLink RX3 31 "MillTalk$Level" "mill" "I" ∈ wsX7_sell := mb_X7_sell_wsX7_sell_r2 (List.mem_of_getElem? (i := 3) rfl)
theorem mx_X7_sell_29 : Cond.fieldLink RX3 34 "MillTalk$Level" "reach" "I" ∈ wsX7_sell := mb_X7_sell_wsX7_sell_r2 (List.mem_of_getElem? (i := 4) rfl)
theorem mx_X7_sell_30 : Cond.fieldLink RX3 37 "MillTalk$Level" "cap" "I" ∈ wsX7_sell := mb_X7_sell_wsX7_sell_r2 (List.mem_of_getElem? (i := 5) rfl)
theorem mx_X7_sell_31 : Cond.fieldLink RX3 40 "MillTalk$Level" "hour" "I" ∈ wsX7_sell := mb_X7_sell_wsX7_sell_r2 (List.mem_of_getElem? (i := 6) rfl)
theorem mx_X7_sell_32 : Cond.fieldLink RX3 43 "MillTalk$Level" "meal" "I" ∈ wsX7_sell := mb_X7_sell_wsX7_sell_r2 (List.mem_of_getElem? (i := 7) rfl)
theorem mx_X7_sell_33 : Cond.fieldLink RX3 46 "MillTalk$Level" "windCount" "I" ∈ wsX7_sell := mb_X7_sell_wsX7_sell_r2 (List.mem_of_getElem? (i := 8) rfl)
theorem mx_X7_sell_34 : Cond.fieldLink RX3 49 "MillTalk$Level" "soundCount" "I" ∈ wsX7_sell := mb_X7_sell_wsX7_sell_r2 (List.mem_of_getElem? (i := 9) rfl)
theorem mx_X7_sell_35 : Cond.fieldLink RX3 9 "MillTalk$Level" "winds" "[I" ∈ wsX7_sell := mb_X7_sell_wsX7_sell_r2 (List.mem_of_getElem? (i := 10) rfl)
theorem mx_X7_sell_36 : Cond.methodLink RX3 52 arraycopyName ∈ wsX7_sell := mb_X7_sell_wsX7_sell_r2 (List.mem_of_getElem? (i := 11) rfl)
theorem mx_X7_sell_37 : Cond.native arraycopyName ∈ wsX7_sell := mb_X7_sell_wsX7_sell_r2 (List.mem_of_getElem? (i := 12) rfl)
theorem mx_X7_sell_38 : Cond.static arraycopyName ∈ wsX7_sell := mb_X7_sell_wsX7_sell_r2 (List.mem_of_getElem? (i := 13) rfl)
theorem mx_X7_sell_39 : Cond.initialized "java/lang/System" ∈ wsX7_sell := mb_X7_sell_wsX7_sell_r2 (List.mem_of_getElem? (i := 14) rfl)
theorem mx_X7_sell_40 : Cond.fieldLink RX3 15 "MillTalk$Level" "kinds" "[I" ∈ wsX7_sell := mb_X7_sell_wsX7_sell_r2 (List.mem_of_getElem? (i := 15) rfl)
theorem mx_X7_sell_41 : Cond.fieldLink RX3 18 "MillTalk$Level" "places" "[I" ∈ wsX7_sell := mb_X7_sell_wsX7_sell_r2 (List.mem_of_getElem? (i := 16) rfl)
theorem mx_X7_sell_42 : Cond.fieldLink RX3 21 "MillTalk$Level" "louds" "[I" ∈ wsX7_sell := mb_X7_sell_wsX7_sell_r2 (List.mem_of_getElem? (i := 17) rfl)
theorem mx_X7_sell_43 : Cond.fieldLink RX3 24 "MillTalk$Level" "hows" "[I" ∈ wsX7_sell := mb_X7_sell_wsX7_sell_r2 (List.mem_of_getElem? (i := 18) rfl)
theorem mb_X7_sell_wsX00 {w : Cond} (h : w ∈ wsX00) : w ∈ wsX7_sell := by unfold wsX7_sell; exact List.mem_cons_of_mem _ (List.mem_append_right _ (h))
theorem mb_X7_sell_wsX30 {w : Cond} (h : w ∈ wsX30) : w ∈ wsX7_sell := by unfold wsX7_sell; exact List.mem_cons_of_mem _ (List.mem_append_left _ (List.mem_append_right _ (h)))
theorem ggX7_sell_X0_keep : GoodIn wsX7_sell wsX0_keep := goodIn_sub (by unfold wsX0_keep; exact List.forall_mem_cons.mpr ⟨mx_X7_sell_16, List.forall_mem_append.mpr ⟨List.forall_mem_append.mpr ⟨List.forall_mem_append.mpr ⟨(by unfold wsX0_keep_r1; exact List.forall_mem_cons.mpr ⟨mx_X7_sell_17, List.forall_mem_cons.mpr ⟨mx_X7_sell_18, List.forall_mem_cons.mpr ⟨mx_X7_sell_19, List.forall_mem_cons.mpr ⟨mx_X7_sell_20, List.forall_mem_cons.mpr ⟨mx_X7_sell_21, List.forall_mem_cons.mpr ⟨mx_X7_sell_22, List.forall_mem_cons.mpr ⟨mx_X7_sell_23, List.forall_mem_cons.mpr ⟨mx_X7_sell_24, List.forall_mem_cons.mpr ⟨mx_X7_sell_25, List.forall_mem_cons.mpr ⟨mx_X7_sell_26, List.forall_mem_cons.mpr ⟨mx_X7_sell_9, List.forall_mem_cons.mpr ⟨mx_X7_sell_27, List.forall_mem_cons.mpr ⟨mx_X7_sell_11, List.forall_mem_cons.mpr ⟨mx_X7_sell_28, List.forall_mem_cons.mpr ⟨mx_X7_sell_29, List.forall_mem_cons.mpr ⟨mx_X7_sell_30, List.forall_mem_cons.mpr ⟨mx_X7_sell_31, List.forall_mem_cons.mpr ⟨mx_X7_sell_32, List.forall_mem_cons.mpr ⟨mx_X7_sell_33, List.forall_mem_cons.mpr ⟨mx_X7_sell_34, List.forall_mem_cons.mpr ⟨mx_X7_sell_35, List.forall_mem_cons.mpr ⟨mx_X7_sell_36, List.forall_mem_cons.mpr ⟨mx_X7_sell_37, List.forall_mem_cons.mpr ⟨mx_X7_sell_38, fun _ h_ => absurd h_ List.not_mem_nil⟩⟩⟩⟩⟩⟩⟩⟩⟩⟩⟩⟩⟩⟩⟩⟩⟩⟩⟩⟩⟩⟩⟩⟩), (by unfold wsX0_keep_r2; exact List.forall_mem_cons.mpr ⟨mx_X7_sell_39, List.forall_mem_cons.mpr ⟨mx_X7_sell_40, List.forall_mem_cons.mpr ⟨mx_X7_sell_41, List.forall_mem_cons.mpr ⟨mx_X7_sell_42, List.forall_mem_cons.mpr ⟨mx_X7_sell_43, fun _ h_ => absurd h_ List.not_mem_nil⟩⟩⟩⟩⟩)⟩, (fun _ h_ => mb_X7_sell_wsX00 h_)⟩, (fun _ h_ => mb_X7_sell_wsX30 h_)⟩⟩) (by decide +kernel)
theorem mx_X7_sell_12 : Cond.methodLink RX7 151 yX0_keep ∈ wsX7_sell := mb_X7_sell_wsX7_sell_r1 (List.mem_of_getElem? (i := 11) rfl)
theorem mx_X7_sell_13 : Cond.instanceMethod yX0_keep ∈ wsX7_sell := mb_X7_sell_wsX7_sell_r1 (List.mem_of_getElem? (i := 12) rfl)
theorem mx_X7_sell_14 : Cond.selects RX0 yX0_keep yX0_keep ∈ wsX7_sell := mb_X7_sell_wsX7_sell_r1 (List.mem_of_getElem? (i := 13) rfl)
theorem mx_X7_sell_15 : Cond.initialized RX0 ∈ wsX7_sell := mb_X7_sell_wsX7_sell_r1 (List.mem_of_getElem? (i := 14) rfl)
theorem gX7_sell_X0_keep : GoodIn wsX7_sell (wsV RX7 151 RX0 yX0_keep wsX0_keep) := goodIn_app (goodIn_sub (List.forall_mem_cons.mpr ⟨mx_X7_sell_12, List.forall_mem_cons.mpr ⟨mx_X7_sell_13, List.forall_mem_cons.mpr ⟨mx_X7_sell_14, List.forall_mem_cons.mpr ⟨mx_X7_sell_15, fun _ h_ => absurd h_ List.not_mem_nil⟩⟩⟩⟩) (by decide +kernel)) ggX7_sell_X0_keep
theorem mx_X7_sell_10 : Cond.code yX3_isTold cX3_isTold 1 (some .boolean) ∈ wsX7_sell := mb_X7_sell_wsX7_sell_r1 (List.mem_of_getElem? (i := 9) rfl)
theorem ggX7_sell_X3_isTold : GoodIn wsX7_sell wsX3_isTold := goodIn_sub (by unfold wsX3_isTold; exact List.forall_mem_cons.mpr ⟨mx_X7_sell_10, List.forall_mem_append.mpr ⟨List.forall_mem_cons.mpr ⟨mx_X7_sell_11, fun _ h_ => absurd h_ List.not_mem_nil⟩, (fun _ h_ => mb_X7_sell_wsX30 h_)⟩⟩) (by decide +kernel)
theorem mx_X7_sell_6 : Cond.methodLink RX7 145 yX3_isTold ∈ wsX7_sell := mb_X7_sell_wsX7_sell_r1 (List.mem_of_getElem? (i := 5) rfl)
theorem mx_X7_sell_7 : Cond.instanceMethod yX3_isTold ∈ wsX7_sell := mb_X7_sell_wsX7_sell_r1 (List.mem_of_getElem? (i := 6) rfl)
theorem mx_X7_sell_8 : Cond.selects RX3 yX3_isTold yX3_isTold ∈ wsX7_sell := mb_X7_sell_wsX7_sell_r1 (List.mem_of_getElem? (i := 7) rfl)
theorem gX7_sell_X3_isTold : GoodIn wsX7_sell (wsV RX7 145 RX3 yX3_isTold wsX3_isTold) := goodIn_app (goodIn_sub (List.forall_mem_cons.mpr ⟨mx_X7_sell_6, List.forall_mem_cons.mpr ⟨mx_X7_sell_7, List.forall_mem_cons.mpr ⟨mx_X7_sell_8, List.forall_mem_cons.mpr ⟨mx_X7_sell_9, fun _ h_ => absurd h_ List.not_mem_nil⟩⟩⟩⟩) (by decide +kernel)) ggX7_sell_X3_isTold
theorem mb_X7_loose_wsX70 {w : Cond} (h : w ∈ wsX70) : w ∈ wsX7_loose := by unfold wsX7_loose; exact List.mem_cons_of_mem _ (List.mem_append_left _ (List.mem_append_left _ (List.mem_append_right _ (h))))
theorem i_X7_loose_X7 : ∀ w ∈ u_ws RX7 TX7 11, w ∈ wsX7_loose := fun _ h_ => mb_X7_loose_wsX70 h_
theorem i_X7_sell_X3 : ∀ w ∈ u_ws RX3 TX3 13, w ∈ wsX7_sell := fun _ h_ => mb_X7_sell_wsX30 h_
theorem mb_X7_sell_wsX70 {w : Cond} (h : w ∈ wsX70) : w ∈ wsX7_sell := by unfold wsX7_sell; exact List.mem_cons_of_mem _ (List.mem_append_left _ (List.mem_append_left _ (List.mem_append_right _ (h))))
theorem i_X7_sell_X7 : ∀ w ∈ u_ws RX7 TX7 11, w ∈ wsX7_sell := fun _ h_ => mb_X7_sell_wsX70 h_
theorem mx_X7_loose_1 : Cond.fieldLink RX7 26 "MillTalk" "now" "LMillTalk$Level;" ∈ wsX7_loose := mb_X7_loose_wsX7_loose_r1 (List.mem_of_getElem? (i := 0) rfl)
theorem mx_X7_loose_2 : Cond.constant RX7 72 (-1000001) ∈ wsX7_loose := mb_X7_loose_wsX7_loose_r1 (List.mem_of_getElem? (i := 1) rfl)
theorem mx_X7_loose_4 : Cond.fieldLink RX7 33 "MillTalk" "acts" "LMillTalk$Acts;" ∈ wsX7_loose := mb_X7_loose_wsX7_loose_r1 (List.mem_of_getElem? (i := 3) rfl)
theorem mx_X7_loose_3 : Cond.constant RX7 141 (-1000002) ∈ wsX7_loose := mb_X7_loose_wsX7_loose_r1 (List.mem_of_getElem? (i := 2) rfl)
theorem mx_X7_sell_1 : Cond.fieldLink RX7 26 "MillTalk" "now" "LMillTalk$Level;" ∈ wsX7_sell := mb_X7_sell_wsX7_sell_r1 (List.mem_of_getElem? (i := 0) rfl)
theorem mx_X7_sell_2 : Cond.constant RX7 141 (-1000002) ∈ wsX7_sell := mb_X7_sell_wsX7_sell_r1 (List.mem_of_getElem? (i := 1) rfl)
theorem mx_X7_sell_3 : Cond.constant RX7 72 (-1000001) ∈ wsX7_sell := mb_X7_sell_wsX7_sell_r1 (List.mem_of_getElem? (i := 2) rfl)
theorem mx_X7_sell_4 : Cond.fieldLink RX7 157 "MillTalk$Level" "meal" "I" ∈ wsX7_sell := mb_X7_sell_wsX7_sell_r1 (List.mem_of_getElem? (i := 3) rfl)
theorem mx_X7_sell_5 : Cond.fieldLink RX7 33 "MillTalk" "acts" "LMillTalk$Acts;" ∈ wsX7_sell := mb_X7_sell_wsX7_sell_r1 (List.mem_of_getElem? (i := 4) rfl)
-- 31.mill3a
set_option maxHeartbeats 60000 in
theorem lf_X7_loose_1 {nv0 : Int32} {nv1 : Int32} {nv2 : Int32} {nv3 : Int32} {nv5 : Int32} {nhh : Nat} {nww : Nat} {nkk : Nat} {ng1 : Nat → Int32} {ng2 : Nat → Int32} {ng3 : Nat → Int32} {ng4 : Nat → Int32} {ng5 : Nat → Int32} {q : Nat} {az : Nat} {fb : Nat → Option Nat} {ad : Nat → Nat} {V : Nat → Nat → Int32} {k0 : Int32} {k1 : Int32} {k2 : Int32} (nhb : nhh ≤ 999) (nwb : nww ≤ 6) (nkb : nkk ≤ 6) (hLv : okLv (nrm nv0 nv1 nv2 nv3 nhh nv5 nww nkk ng1 ng2 ng3 ng4 ng5)) (hfb : ∀ i : Nat, i < 24 → fb i = some (ad i)) (hok : ∀ i : Nat, i < 24 → okL (V i)) (hq : q < 24) (haz : az ≤ 24) (f_1_0_0 : (k0 < 0 ∨ (nI nkk) ≤ k0)) : (nrm nv0 nv1 nv2 nv3 nhh nv5 nww nkk ng1 ng2 ng3 ng4 ng5) = n_loose (nrm nv0 nv1 nv2 nv3 nhh nv5 nww nkk ng1 ng2 ng3 ng4 ng5) k0 k1 k2 := by
  first
  | with_reducible exact lo_l (lo_ng (lo_g1 f_1_0_0))
  | with_reducible exact kz_n (lo_ng (lo_g1 f_1_0_0))
  | with_reducible exact kc_n (lo_ng (lo_g1 f_1_0_0))
  | with_reducible exact lo_a (lo_g1 f_1_0_0)
  | omega
set_option maxHeartbeats 60000 in
theorem lf_X7_loose_2 {nv0 : Int32} {nv1 : Int32} {nv2 : Int32} {nv3 : Int32} {nv5 : Int32} {nhh : Nat} {nww : Nat} {nkk : Nat} {ng1 : Nat → Int32} {ng2 : Nat → Int32} {ng3 : Nat → Int32} {ng4 : Nat → Int32} {ng5 : Nat → Int32} {q : Nat} {az : Nat} {fb : Nat → Option Nat} {ad : Nat → Nat} {V : Nat → Nat → Int32} {k0 : Int32} {k1 : Int32} {k2 : Int32} (nhb : nhh ≤ 999) (nwb : nww ≤ 6) (nkb : nkk ≤ 6) (hLv : okLv (nrm nv0 nv1 nv2 nv3 nhh nv5 nww nkk ng1 ng2 ng3 ng4 ng5)) (hfb : ∀ i : Nat, i < 24 → fb i = some (ad i)) (hok : ∀ i : Nat, i < 24 → okL (V i)) (hq : q < 24) (haz : az ≤ 24) (f_1_0_0 : (k0 < 0 ∨ (nI nkk) ≤ k0)) : az = kpN (gd_loose (nrm nv0 nv1 nv2 nv3 nhh nv5 nww nkk ng1 ng2 ng3 ng4 ng5) k0 k1 k2) az := by
  first
  | with_reducible exact lo_l (lo_ng (lo_g1 f_1_0_0))
  | with_reducible exact kz_n (lo_ng (lo_g1 f_1_0_0))
  | with_reducible exact kc_n (lo_ng (lo_g1 f_1_0_0))
  | with_reducible exact lo_a (lo_g1 f_1_0_0)
  | omega
set_option maxHeartbeats 60000 in
theorem lf_X7_loose_3 {nv0 : Int32} {nv1 : Int32} {nv2 : Int32} {nv3 : Int32} {nv5 : Int32} {nhh : Nat} {nww : Nat} {nkk : Nat} {ng1 : Nat → Int32} {ng2 : Nat → Int32} {ng3 : Nat → Int32} {ng4 : Nat → Int32} {ng5 : Nat → Int32} {q : Nat} {az : Nat} {fb : Nat → Option Nat} {ad : Nat → Nat} {V : Nat → Nat → Int32} {G : Nat → Nat → Nat → Int32} {k0 : Int32} {k1 : Int32} {k2 : Int32} (nhb : nhh ≤ 999) (nwb : nww ≤ 6) (nkb : nkk ≤ 6) (hLv : okLv (nrm nv0 nv1 nv2 nv3 nhh nv5 nww nkk ng1 ng2 ng3 ng4 ng5)) (hfb : ∀ i : Nat, i < 24 → fb i = some (ad i)) (hok : ∀ i : Nat, i < 24 → okL (V i)) (hq : q < 24) (haz : az ≤ 24) (f_1_0_0 : (k0 < 0 ∨ (nI nkk) ≤ k0)) : acX q az V G = kpA (gd_loose (nrm nv0 nv1 nv2 nv3 nhh nv5 nww nkk ng1 ng2 ng3 ng4 ng5) k0 k1 k2) (nrm nv0 nv1 nv2 nv3 nhh nv5 nww nkk ng1 ng2 ng3 ng4 ng5) az (acX q az V G) := by
  first
  | with_reducible exact lo_l (lo_ng (lo_g1 f_1_0_0))
  | with_reducible exact kz_n (lo_ng (lo_g1 f_1_0_0))
  | with_reducible exact kc_n (lo_ng (lo_g1 f_1_0_0))
  | with_reducible exact lo_a (lo_g1 f_1_0_0)
  | omega
set_option maxHeartbeats 60000 in
theorem lf_X7_loose_4 {nv0 : Int32} {nv1 : Int32} {nv2 : Int32} {nv3 : Int32} {nv5 : Int32} {nhh : Nat} {nww : Nat} {nkk : Nat} {ng1 : Nat → Int32} {ng2 : Nat → Int32} {ng3 : Nat → Int32} {ng4 : Nat → Int32} {ng5 : Nat → Int32} {q : Nat} {az : Nat} {fb : Nat → Option Nat} {ad : Nat → Nat} {V : Nat → Nat → Int32} {k0 : Int32} {k1 : Int32} {k2 : Int32} (nhb : nhh ≤ 999) (nwb : nww ≤ 6) (nkb : nkk ≤ 6) (hLv : okLv (nrm nv0 nv1 nv2 nv3 nhh nv5 nww nkk ng1 ng2 ng3 ng4 ng5)) (hfb : ∀ i : Nat, i < 24 → fb i = some (ad i)) (hok : ∀ i : Nat, i < 24 → okL (V i)) (hq : q < 24) (haz : az ≤ 24) (f_1_0_0 : (k0 < 0 ∨ (nI nkk) ≤ k0)) : (-1000001) = (a_loose (nrm nv0 nv1 nv2 nv3 nhh nv5 nww nkk ng1 ng2 ng3 ng4 ng5) k0 k1 k2) := by
  first
  | with_reducible exact lo_l (lo_ng (lo_g1 f_1_0_0))
  | with_reducible exact kz_n (lo_ng (lo_g1 f_1_0_0))
  | with_reducible exact kc_n (lo_ng (lo_g1 f_1_0_0))
  | with_reducible exact lo_a (lo_g1 f_1_0_0)
  | omega
set_option maxHeartbeats 60000 in
theorem lf_X7_loose_5 {nv0 : Int32} {nv1 : Int32} {nv2 : Int32} {nv3 : Int32} {nv5 : Int32} {nhh : Nat} {nww : Nat} {nkk : Nat} {ng1 : Nat → Int32} {ng2 : Nat → Int32} {ng3 : Nat → Int32} {ng4 : Nat → Int32} {ng5 : Nat → Int32} {q : Nat} {az : Nat} {fb : Nat → Option Nat} {ad : Nat → Nat} {V : Nat → Nat → Int32} {k1 : Int32} {k2 : Int32} {j_1 : Nat} (nhb : nhh ≤ 999) (nwb : nww ≤ 6) (nkb : nkk ≤ 6) (hLv : okLv (nrm nv0 nv1 nv2 nv3 nhh nv5 nww nkk ng1 ng2 ng3 ng4 ng5)) (hfb : ∀ i : Nat, i < 24 → fb i = some (ad i)) (hok : ∀ i : Nat, i < 24 → okL (V i)) (hq : q < 24) (haz : az ≤ 24) (hj_1 : j_1 < nkk) (f_5_0_0 : (k1 < 0 ∨ nv0 ≤ k1)) : (nrm nv0 nv1 nv2 nv3 nhh nv5 nww nkk ng1 ng2 ng3 ng4 ng5) = n_loose (nrm nv0 nv1 nv2 nv3 nhh nv5 nww nkk ng1 ng2 ng3 ng4 ng5) (nI j_1) k1 k2 := by
  first
  | with_reducible exact lo_l (lo_ng (lo_g2 f_5_0_0))
  | with_reducible exact kz_n (lo_ng (lo_g2 f_5_0_0))
  | with_reducible exact kc_n (lo_ng (lo_g2 f_5_0_0))
  | with_reducible exact lo_a (lo_g2 f_5_0_0)
  | omega
set_option maxHeartbeats 60000 in
theorem lf_X7_loose_6 {nv0 : Int32} {nv1 : Int32} {nv2 : Int32} {nv3 : Int32} {nv5 : Int32} {nhh : Nat} {nww : Nat} {nkk : Nat} {ng1 : Nat → Int32} {ng2 : Nat → Int32} {ng3 : Nat → Int32} {ng4 : Nat → Int32} {ng5 : Nat → Int32} {q : Nat} {az : Nat} {fb : Nat → Option Nat} {ad : Nat → Nat} {V : Nat → Nat → Int32} {k1 : Int32} {k2 : Int32} {j_1 : Nat} (nhb : nhh ≤ 999) (nwb : nww ≤ 6) (nkb : nkk ≤ 6) (hLv : okLv (nrm nv0 nv1 nv2 nv3 nhh nv5 nww nkk ng1 ng2 ng3 ng4 ng5)) (hfb : ∀ i : Nat, i < 24 → fb i = some (ad i)) (hok : ∀ i : Nat, i < 24 → okL (V i)) (hq : q < 24) (haz : az ≤ 24) (hj_1 : j_1 < nkk) (f_5_0_0 : (k1 < 0 ∨ nv0 ≤ k1)) : az = kpN (gd_loose (nrm nv0 nv1 nv2 nv3 nhh nv5 nww nkk ng1 ng2 ng3 ng4 ng5) (nI j_1) k1 k2) az := by
  first
  | with_reducible exact lo_l (lo_ng (lo_g2 f_5_0_0))
  | with_reducible exact kz_n (lo_ng (lo_g2 f_5_0_0))
  | with_reducible exact kc_n (lo_ng (lo_g2 f_5_0_0))
  | with_reducible exact lo_a (lo_g2 f_5_0_0)
  | omega
set_option maxHeartbeats 60000 in
theorem lf_X7_loose_7 {nv0 : Int32} {nv1 : Int32} {nv2 : Int32} {nv3 : Int32} {nv5 : Int32} {nhh : Nat} {nww : Nat} {nkk : Nat} {ng1 : Nat → Int32} {ng2 : Nat → Int32} {ng3 : Nat → Int32} {ng4 : Nat → Int32} {ng5 : Nat → Int32} {q : Nat} {az : Nat} {fb : Nat → Option Nat} {ad : Nat → Nat} {V : Nat → Nat → Int32} {G : Nat → Nat → Nat → Int32} {k1 : Int32} {k2 : Int32} {j_1 : Nat} (nhb : nhh ≤ 999) (nwb : nww ≤ 6) (nkb : nkk ≤ 6) (hLv : okLv (nrm nv0 nv1 nv2 nv3 nhh nv5 nww nkk ng1 ng2 ng3 ng4 ng5)) (hfb : ∀ i : Nat, i < 24 → fb i = some (ad i)) (hok : ∀ i : Nat, i < 24 → okL (V i)) (hq : q < 24) (haz : az ≤ 24) (hj_1 : j_1 < nkk) (f_5_0_0 : (k1 < 0 ∨ nv0 ≤ k1)) : acX q az V G = kpA (gd_loose (nrm nv0 nv1 nv2 nv3 nhh nv5 nww nkk ng1 ng2 ng3 ng4 ng5) (nI j_1) k1 k2) (nrm nv0 nv1 nv2 nv3 nhh nv5 nww nkk ng1 ng2 ng3 ng4 ng5) az (acX q az V G) := by
  first
  | with_reducible exact lo_l (lo_ng (lo_g2 f_5_0_0))
  | with_reducible exact kz_n (lo_ng (lo_g2 f_5_0_0))
  | with_reducible exact kc_n (lo_ng (lo_g2 f_5_0_0))
  | with_reducible exact lo_a (lo_g2 f_5_0_0)
  | omega
set_option maxHeartbeats 60000 in
theorem lf_X7_loose_8 {nv0 : Int32} {nv1 : Int32} {nv2 : Int32} {nv3 : Int32} {nv5 : Int32} {nhh : Nat} {nww : Nat} {nkk : Nat} {ng1 : Nat → Int32} {ng2 : Nat → Int32} {ng3 : Nat → Int32} {ng4 : Nat → Int32} {ng5 : Nat → Int32} {q : Nat} {az : Nat} {fb : Nat → Option Nat} {ad : Nat → Nat} {V : Nat → Nat → Int32} {k1 : Int32} {k2 : Int32} {j_1 : Nat} (nhb : nhh ≤ 999) (nwb : nww ≤ 6) (nkb : nkk ≤ 6) (hLv : okLv (nrm nv0 nv1 nv2 nv3 nhh nv5 nww nkk ng1 ng2 ng3 ng4 ng5)) (hfb : ∀ i : Nat, i < 24 → fb i = some (ad i)) (hok : ∀ i : Nat, i < 24 → okL (V i)) (hq : q < 24) (haz : az ≤ 24) (hj_1 : j_1 < nkk) (f_5_0_0 : (k1 < 0 ∨ nv0 ≤ k1)) : (-1000001) = (a_loose (nrm nv0 nv1 nv2 nv3 nhh nv5 nww nkk ng1 ng2 ng3 ng4 ng5) (nI j_1) k1 k2) := by
  first
  | with_reducible exact lo_l (lo_ng (lo_g2 f_5_0_0))
  | with_reducible exact kz_n (lo_ng (lo_g2 f_5_0_0))
  | with_reducible exact kc_n (lo_ng (lo_g2 f_5_0_0))
  | with_reducible exact lo_a (lo_g2 f_5_0_0)
  | omega
set_option maxHeartbeats 60000 in
theorem lf_X7_loose_9 {nv0 : Int32} {nv1 : Int32} {nv2 : Int32} {nv3 : Int32} {nv5 : Int32} {nhh : Nat} {nww : Nat} {nkk : Nat} {ng1 : Nat → Int32} {ng2 : Nat → Int32} {ng3 : Nat → Int32} {ng4 : Nat → Int32} {ng5 : Nat → Int32} {q : Nat} {az : Nat} {fb : Nat → Option Nat} {ad : Nat → Nat} {V : Nat → Nat → Int32} {k1 : Int32} {k2 : Int32} {j_1 : Nat} (nhb : nhh ≤ 999) (nwb : nww ≤ 6) (nkb : nkk ≤ 6) (hLv : okLv (nrm nv0 nv1 nv2 nv3 nhh nv5 nww nkk ng1 ng2 ng3 ng4 ng5)) (hfb : ∀ i : Nat, i < 24 → fb i = some (ad i)) (hok : ∀ i : Nat, i < 24 → okL (V i)) (hq : q < 24) (haz : az ≤ 24) (hj_1 : j_1 < nkk) (f_5_1_0 : ¬ k1 < 0) (f_5_1_1 : ¬ nv0 ≤ k1) (c_8 : k2 < 1) : (nrm nv0 nv1 nv2 nv3 nhh nv5 nww nkk ng1 ng2 ng3 ng4 ng5) = n_loose (nrm nv0 nv1 nv2 nv3 nhh nv5 nww nkk ng1 ng2 ng3 ng4 ng5) (nI j_1) k1 k2 := by
  first
  | with_reducible exact lo_l (lo_ng (lo_g3 c_8))
  | with_reducible exact kz_n (lo_ng (lo_g3 c_8))
  | with_reducible exact kc_n (lo_ng (lo_g3 c_8))
  | with_reducible exact lo_a (lo_g3 c_8)
  | omega
set_option maxHeartbeats 60000 in
theorem lf_X7_loose_10 {nv0 : Int32} {nv1 : Int32} {nv2 : Int32} {nv3 : Int32} {nv5 : Int32} {nhh : Nat} {nww : Nat} {nkk : Nat} {ng1 : Nat → Int32} {ng2 : Nat → Int32} {ng3 : Nat → Int32} {ng4 : Nat → Int32} {ng5 : Nat → Int32} {q : Nat} {az : Nat} {fb : Nat → Option Nat} {ad : Nat → Nat} {V : Nat → Nat → Int32} {k1 : Int32} {k2 : Int32} {j_1 : Nat} (nhb : nhh ≤ 999) (nwb : nww ≤ 6) (nkb : nkk ≤ 6) (hLv : okLv (nrm nv0 nv1 nv2 nv3 nhh nv5 nww nkk ng1 ng2 ng3 ng4 ng5)) (hfb : ∀ i : Nat, i < 24 → fb i = some (ad i)) (hok : ∀ i : Nat, i < 24 → okL (V i)) (hq : q < 24) (haz : az ≤ 24) (hj_1 : j_1 < nkk) (f_5_1_0 : ¬ k1 < 0) (f_5_1_1 : ¬ nv0 ≤ k1) (c_8 : k2 < 1) : az = kpN (gd_loose (nrm nv0 nv1 nv2 nv3 nhh nv5 nww nkk ng1 ng2 ng3 ng4 ng5) (nI j_1) k1 k2) az := by
  first
  | with_reducible exact lo_l (lo_ng (lo_g3 c_8))
  | with_reducible exact kz_n (lo_ng (lo_g3 c_8))
  | with_reducible exact kc_n (lo_ng (lo_g3 c_8))
  | with_reducible exact lo_a (lo_g3 c_8)
  | omega
set_option maxHeartbeats 60000 in
theorem lf_X7_loose_11 {nv0 : Int32} {nv1 : Int32} {nv2 : Int32} {nv3 : Int32} {nv5 : Int32} {nhh : Nat} {nww : Nat} {nkk : Nat} {ng1 : Nat → Int32} {ng2 : Nat → Int32} {ng3 : Nat → Int32} {ng4 : Nat → Int32} {ng5 : Nat → Int32} {q : Nat} {az : Nat} {fb : Nat → Option Nat} {ad : Nat → Nat} {V : Nat → Nat → Int32} {G : Nat → Nat → Nat → Int32} {k1 : Int32} {k2 : Int32} {j_1 : Nat} (nhb : nhh ≤ 999) (nwb : nww ≤ 6) (nkb : nkk ≤ 6) (hLv : okLv (nrm nv0 nv1 nv2 nv3 nhh nv5 nww nkk ng1 ng2 ng3 ng4 ng5)) (hfb : ∀ i : Nat, i < 24 → fb i = some (ad i)) (hok : ∀ i : Nat, i < 24 → okL (V i)) (hq : q < 24) (haz : az ≤ 24) (hj_1 : j_1 < nkk) (f_5_1_0 : ¬ k1 < 0) (f_5_1_1 : ¬ nv0 ≤ k1) (c_8 : k2 < 1) : acX q az V G = kpA (gd_loose (nrm nv0 nv1 nv2 nv3 nhh nv5 nww nkk ng1 ng2 ng3 ng4 ng5) (nI j_1) k1 k2) (nrm nv0 nv1 nv2 nv3 nhh nv5 nww nkk ng1 ng2 ng3 ng4 ng5) az (acX q az V G) := by
  first
  | with_reducible exact lo_l (lo_ng (lo_g3 c_8))
  | with_reducible exact kz_n (lo_ng (lo_g3 c_8))
  | with_reducible exact kc_n (lo_ng (lo_g3 c_8))
  | with_reducible exact lo_a (lo_g3 c_8)
  | omega
set_option maxHeartbeats 60000 in
theorem lf_X7_loose_12 {nv0 : Int32} {nv1 : Int32} {nv2 : Int32} {nv3 : Int32} {nv5 : Int32} {nhh : Nat} {nww : Nat} {nkk : Nat} {ng1 : Nat → Int32} {ng2 : Nat → Int32} {ng3 : Nat → Int32} {ng4 : Nat → Int32} {ng5 : Nat → Int32} {q : Nat} {az : Nat} {fb : Nat → Option Nat} {ad : Nat → Nat} {V : Nat → Nat → Int32} {k1 : Int32} {k2 : Int32} {j_1 : Nat} (nhb : nhh ≤ 999) (nwb : nww ≤ 6) (nkb : nkk ≤ 6) (hLv : okLv (nrm nv0 nv1 nv2 nv3 nhh nv5 nww nkk ng1 ng2 ng3 ng4 ng5)) (hfb : ∀ i : Nat, i < 24 → fb i = some (ad i)) (hok : ∀ i : Nat, i < 24 → okL (V i)) (hq : q < 24) (haz : az ≤ 24) (hj_1 : j_1 < nkk) (f_5_1_0 : ¬ k1 < 0) (f_5_1_1 : ¬ nv0 ≤ k1) (c_8 : k2 < 1) : (-1000001) = (a_loose (nrm nv0 nv1 nv2 nv3 nhh nv5 nww nkk ng1 ng2 ng3 ng4 ng5) (nI j_1) k1 k2) := by
  first
  | with_reducible exact lo_l (lo_ng (lo_g3 c_8))
  | with_reducible exact kz_n (lo_ng (lo_g3 c_8))
  | with_reducible exact kc_n (lo_ng (lo_g3 c_8))
  | with_reducible exact lo_a (lo_g3 c_8)
  | omega
set_option maxHeartbeats 60000 in
theorem lf_X7_loose_13 {nv0 : Int32} {nv1 : Int32} {nv2 : Int32} {nv3 : Int32} {nv5 : Int32} {nhh : Nat} {nww : Nat} {nkk : Nat} {ng1 : Nat → Int32} {ng2 : Nat → Int32} {ng3 : Nat → Int32} {ng4 : Nat → Int32} {ng5 : Nat → Int32} {q : Nat} {az : Nat} {fb : Nat → Option Nat} {ad : Nat → Nat} {V : Nat → Nat → Int32} {G : Nat → Nat → Nat → Int32} {k1 : Int32} {k2 : Int32} {j_1 : Nat} {Vn_12 : Nat → Nat → Int32} {Gn_12 : Nat → Nat → Nat → Int32} {qn_12 : Nat} {zn_12 : Nat} {g3n_13 : Nat → Int32} {g4n_13 : Nat → Int32} {g5n_13 : Nat → Int32} {r_14 : Int32} (nhb : nhh ≤ 999) (nwb : nww ≤ 6) (nkb : nkk ≤ 6) (hLv : okLv (nrm nv0 nv1 nv2 nv3 nhh nv5 nww nkk ng1 ng2 ng3 ng4 ng5)) (hfb : ∀ i : Nat, i < 24 → fb i = some (ad i)) (hok : ∀ i : Nat, i < 24 → okL (V i)) (hq : q < 24) (haz : az ≤ 24) (hj_1 : j_1 < nkk) (f_5_1_0 : ¬ k1 < 0) (f_5_1_1 : ¬ nv0 ≤ k1) (c_8 : ¬ (k2 < 1)) (c_9 : k2 ≤ 20) (f_10_0_0 : ¬ ng5 j_1 = 0) (hF_12_0 : (∀ i : Nat, i < 24 → okL (Vn_12 i))) (hF_12_1 : qn_12 < 24) (hF_12_2 : zn_12 ≤ 24) (hF_12_3 : nrV (Vn_12 q) (Gn_12 q) = (nrm nv0 nv1 nv2 nv3 nhh nv5 nww nkk ng1 ng2 ng3 ng4 ng5)) (hF_12_4 : (∀ i : Nat, i < 24 → i ≠ q → nrV (Vn_12 i) (Gn_12 i) = nrV (V i) (G i))) (hF_12_5 : qn_12 = (q + 1) % 24) (hF_12_6 : zn_12 = ntN az) (hF_13_0 : g3n_13 = upd ng3 j_1 k1) (hF_13_1 : g4n_13 = upd ng4 j_1 k2) (hF_13_2 : g5n_13 = upd ng5 j_1 0) (h_14 : r_14 = (thR g5n_13 0 nkk)) : (nrm nv0 nv1 nv2 nv3 nhh nv5 nww nkk ng1 ng2 g3n_13 g4n_13 g5n_13) = n_loose (nrm nv0 nv1 nv2 nv3 nhh nv5 nww nkk ng1 ng2 ng3 ng4 ng5) (nI j_1) k1 k2 := by
  first
  | with_reducible exact lo_l (lo_ng (lo_g3 c_8))
  | with_reducible exact kz_n (lo_ng (lo_g3 c_8))
  | with_reducible exact kc_n (lo_ng (lo_g3 c_8))
  | with_reducible exact lo_a (lo_g3 c_8)
  | with_reducible exact lo_l (lo_ng (lo_g4 c_9))
  | with_reducible exact kz_n (lo_ng (lo_g4 c_9))
  | with_reducible exact kc_n (lo_ng (lo_g4 c_9))
  | with_reducible exact lo_a (lo_g4 c_9)
  | with_reducible exact lo_L hj_1 nkb (lo_q hj_1 nkb (lo_p hj_1 nkb f_5_1_0 f_5_1_1 c_8 c_9) f_10_0_0) hF_13_0 hF_13_1 hF_13_2
  | with_reducible exact kz_p (lo_q hj_1 nkb (lo_p hj_1 nkb f_5_1_0 f_5_1_1 c_8 c_9) f_10_0_0) hF_12_6
  | with_reducible exact kc_p (lo_q hj_1 nkb (lo_p hj_1 nkb f_5_1_0 f_5_1_1 c_8 c_9) f_10_0_0) hq haz hF_12_3 hF_12_4 hF_12_5 hF_12_6
  | with_reducible exact lo_A hj_1 nkb (lo_q hj_1 nkb (lo_p hj_1 nkb f_5_1_0 f_5_1_1 c_8 c_9) f_10_0_0) hF_13_0 hF_13_1 hF_13_2 h_14
  | omega
set_option maxHeartbeats 60000 in
theorem lf_X7_loose_14 {nv0 : Int32} {nv1 : Int32} {nv2 : Int32} {nv3 : Int32} {nv5 : Int32} {nhh : Nat} {nww : Nat} {nkk : Nat} {ng1 : Nat → Int32} {ng2 : Nat → Int32} {ng3 : Nat → Int32} {ng4 : Nat → Int32} {ng5 : Nat → Int32} {q : Nat} {az : Nat} {fb : Nat → Option Nat} {ad : Nat → Nat} {V : Nat → Nat → Int32} {G : Nat → Nat → Nat → Int32} {k1 : Int32} {k2 : Int32} {j_1 : Nat} {Vn_12 : Nat → Nat → Int32} {Gn_12 : Nat → Nat → Nat → Int32} {qn_12 : Nat} {zn_12 : Nat} {g3n_13 : Nat → Int32} {g4n_13 : Nat → Int32} {g5n_13 : Nat → Int32} {r_14 : Int32} (nhb : nhh ≤ 999) (nwb : nww ≤ 6) (nkb : nkk ≤ 6) (hLv : okLv (nrm nv0 nv1 nv2 nv3 nhh nv5 nww nkk ng1 ng2 ng3 ng4 ng5)) (hfb : ∀ i : Nat, i < 24 → fb i = some (ad i)) (hok : ∀ i : Nat, i < 24 → okL (V i)) (hq : q < 24) (haz : az ≤ 24) (hj_1 : j_1 < nkk) (f_5_1_0 : ¬ k1 < 0) (f_5_1_1 : ¬ nv0 ≤ k1) (c_8 : ¬ (k2 < 1)) (c_9 : k2 ≤ 20) (f_10_0_0 : ¬ ng5 j_1 = 0) (hF_12_0 : (∀ i : Nat, i < 24 → okL (Vn_12 i))) (hF_12_1 : qn_12 < 24) (hF_12_2 : zn_12 ≤ 24) (hF_12_3 : nrV (Vn_12 q) (Gn_12 q) = (nrm nv0 nv1 nv2 nv3 nhh nv5 nww nkk ng1 ng2 ng3 ng4 ng5)) (hF_12_4 : (∀ i : Nat, i < 24 → i ≠ q → nrV (Vn_12 i) (Gn_12 i) = nrV (V i) (G i))) (hF_12_5 : qn_12 = (q + 1) % 24) (hF_12_6 : zn_12 = ntN az) (hF_13_0 : g3n_13 = upd ng3 j_1 k1) (hF_13_1 : g4n_13 = upd ng4 j_1 k2) (hF_13_2 : g5n_13 = upd ng5 j_1 0) (h_14 : r_14 = (thR g5n_13 0 nkk)) : zn_12 = kpN (gd_loose (nrm nv0 nv1 nv2 nv3 nhh nv5 nww nkk ng1 ng2 ng3 ng4 ng5) (nI j_1) k1 k2) az := by
  first
  | with_reducible exact lo_l (lo_ng (lo_g3 c_8))
  | with_reducible exact kz_n (lo_ng (lo_g3 c_8))
  | with_reducible exact kc_n (lo_ng (lo_g3 c_8))
  | with_reducible exact lo_a (lo_g3 c_8)
  | with_reducible exact lo_l (lo_ng (lo_g4 c_9))
  | with_reducible exact kz_n (lo_ng (lo_g4 c_9))
  | with_reducible exact kc_n (lo_ng (lo_g4 c_9))
  | with_reducible exact lo_a (lo_g4 c_9)
  | with_reducible exact lo_L hj_1 nkb (lo_q hj_1 nkb (lo_p hj_1 nkb f_5_1_0 f_5_1_1 c_8 c_9) f_10_0_0) hF_13_0 hF_13_1 hF_13_2
  | with_reducible exact kz_p (lo_q hj_1 nkb (lo_p hj_1 nkb f_5_1_0 f_5_1_1 c_8 c_9) f_10_0_0) hF_12_6
  | with_reducible exact kc_p (lo_q hj_1 nkb (lo_p hj_1 nkb f_5_1_0 f_5_1_1 c_8 c_9) f_10_0_0) hq haz hF_12_3 hF_12_4 hF_12_5 hF_12_6
  | with_reducible exact lo_A hj_1 nkb (lo_q hj_1 nkb (lo_p hj_1 nkb f_5_1_0 f_5_1_1 c_8 c_9) f_10_0_0) hF_13_0 hF_13_1 hF_13_2 h_14
  | omega
set_option maxHeartbeats 60000 in
theorem lf_X7_loose_15 {nv0 : Int32} {nv1 : Int32} {nv2 : Int32} {nv3 : Int32} {nv5 : Int32} {nhh : Nat} {nww : Nat} {nkk : Nat} {ng1 : Nat → Int32} {ng2 : Nat → Int32} {ng3 : Nat → Int32} {ng4 : Nat → Int32} {ng5 : Nat → Int32} {q : Nat} {az : Nat} {fb : Nat → Option Nat} {ad : Nat → Nat} {V : Nat → Nat → Int32} {G : Nat → Nat → Nat → Int32} {k1 : Int32} {k2 : Int32} {j_1 : Nat} {Vn_12 : Nat → Nat → Int32} {Gn_12 : Nat → Nat → Nat → Int32} {qn_12 : Nat} {zn_12 : Nat} {g3n_13 : Nat → Int32} {g4n_13 : Nat → Int32} {g5n_13 : Nat → Int32} {r_14 : Int32} (nhb : nhh ≤ 999) (nwb : nww ≤ 6) (nkb : nkk ≤ 6) (hLv : okLv (nrm nv0 nv1 nv2 nv3 nhh nv5 nww nkk ng1 ng2 ng3 ng4 ng5)) (hfb : ∀ i : Nat, i < 24 → fb i = some (ad i)) (hok : ∀ i : Nat, i < 24 → okL (V i)) (hq : q < 24) (haz : az ≤ 24) (hj_1 : j_1 < nkk) (f_5_1_0 : ¬ k1 < 0) (f_5_1_1 : ¬ nv0 ≤ k1) (c_8 : ¬ (k2 < 1)) (c_9 : k2 ≤ 20) (f_10_0_0 : ¬ ng5 j_1 = 0) (hF_12_0 : (∀ i : Nat, i < 24 → okL (Vn_12 i))) (hF_12_1 : qn_12 < 24) (hF_12_2 : zn_12 ≤ 24) (hF_12_3 : nrV (Vn_12 q) (Gn_12 q) = (nrm nv0 nv1 nv2 nv3 nhh nv5 nww nkk ng1 ng2 ng3 ng4 ng5)) (hF_12_4 : (∀ i : Nat, i < 24 → i ≠ q → nrV (Vn_12 i) (Gn_12 i) = nrV (V i) (G i))) (hF_12_5 : qn_12 = (q + 1) % 24) (hF_12_6 : zn_12 = ntN az) (hF_13_0 : g3n_13 = upd ng3 j_1 k1) (hF_13_1 : g4n_13 = upd ng4 j_1 k2) (hF_13_2 : g5n_13 = upd ng5 j_1 0) (h_14 : r_14 = (thR g5n_13 0 nkk)) : acX qn_12 zn_12 Vn_12 Gn_12 = kpA (gd_loose (nrm nv0 nv1 nv2 nv3 nhh nv5 nww nkk ng1 ng2 ng3 ng4 ng5) (nI j_1) k1 k2) (nrm nv0 nv1 nv2 nv3 nhh nv5 nww nkk ng1 ng2 ng3 ng4 ng5) az (acX q az V G) := by
  first
  | with_reducible exact lo_l (lo_ng (lo_g3 c_8))
  | with_reducible exact kz_n (lo_ng (lo_g3 c_8))
  | with_reducible exact kc_n (lo_ng (lo_g3 c_8))
  | with_reducible exact lo_a (lo_g3 c_8)
  | with_reducible exact lo_l (lo_ng (lo_g4 c_9))
  | with_reducible exact kz_n (lo_ng (lo_g4 c_9))
  | with_reducible exact kc_n (lo_ng (lo_g4 c_9))
  | with_reducible exact lo_a (lo_g4 c_9)
  | with_reducible exact lo_L hj_1 nkb (lo_q hj_1 nkb (lo_p hj_1 nkb f_5_1_0 f_5_1_1 c_8 c_9) f_10_0_0) hF_13_0 hF_13_1 hF_13_2
  | with_reducible exact kz_p (lo_q hj_1 nkb (lo_p hj_1 nkb f_5_1_0 f_5_1_1 c_8 c_9) f_10_0_0) hF_12_6
  | with_reducible exact kc_p (lo_q hj_1 nkb (lo_p hj_1 nkb f_5_1_0 f_5_1_1 c_8 c_9) f_10_0_0) hq haz hF_12_3 hF_12_4 hF_12_5 hF_12_6
  | with_reducible exact lo_A hj_1 nkb (lo_q hj_1 nkb (lo_p hj_1 nkb f_5_1_0 f_5_1_1 c_8 c_9) f_10_0_0) hF_13_0 hF_13_1 hF_13_2 h_14
  | omega
set_option maxHeartbeats 60000 in
theorem lf_X7_loose_16 {nv0 : Int32} {nv1 : Int32} {nv2 : Int32} {nv3 : Int32} {nv5 : Int32} {nhh : Nat} {nww : Nat} {nkk : Nat} {ng1 : Nat → Int32} {ng2 : Nat → Int32} {ng3 : Nat → Int32} {ng4 : Nat → Int32} {ng5 : Nat → Int32} {q : Nat} {az : Nat} {fb : Nat → Option Nat} {ad : Nat → Nat} {V : Nat → Nat → Int32} {G : Nat → Nat → Nat → Int32} {k1 : Int32} {k2 : Int32} {j_1 : Nat} {Vn_12 : Nat → Nat → Int32} {Gn_12 : Nat → Nat → Nat → Int32} {qn_12 : Nat} {zn_12 : Nat} {g3n_13 : Nat → Int32} {g4n_13 : Nat → Int32} {g5n_13 : Nat → Int32} {r_14 : Int32} (nhb : nhh ≤ 999) (nwb : nww ≤ 6) (nkb : nkk ≤ 6) (hLv : okLv (nrm nv0 nv1 nv2 nv3 nhh nv5 nww nkk ng1 ng2 ng3 ng4 ng5)) (hfb : ∀ i : Nat, i < 24 → fb i = some (ad i)) (hok : ∀ i : Nat, i < 24 → okL (V i)) (hq : q < 24) (haz : az ≤ 24) (hj_1 : j_1 < nkk) (f_5_1_0 : ¬ k1 < 0) (f_5_1_1 : ¬ nv0 ≤ k1) (c_8 : ¬ (k2 < 1)) (c_9 : k2 ≤ 20) (f_10_0_0 : ¬ ng5 j_1 = 0) (hF_12_0 : (∀ i : Nat, i < 24 → okL (Vn_12 i))) (hF_12_1 : qn_12 < 24) (hF_12_2 : zn_12 ≤ 24) (hF_12_3 : nrV (Vn_12 q) (Gn_12 q) = (nrm nv0 nv1 nv2 nv3 nhh nv5 nww nkk ng1 ng2 ng3 ng4 ng5)) (hF_12_4 : (∀ i : Nat, i < 24 → i ≠ q → nrV (Vn_12 i) (Gn_12 i) = nrV (V i) (G i))) (hF_12_5 : qn_12 = (q + 1) % 24) (hF_12_6 : zn_12 = ntN az) (hF_13_0 : g3n_13 = upd ng3 j_1 k1) (hF_13_1 : g4n_13 = upd ng4 j_1 k2) (hF_13_2 : g5n_13 = upd ng5 j_1 0) (h_14 : r_14 = (thR g5n_13 0 nkk)) : r_14 = (a_loose (nrm nv0 nv1 nv2 nv3 nhh nv5 nww nkk ng1 ng2 ng3 ng4 ng5) (nI j_1) k1 k2) := by
  first
  | with_reducible exact lo_l (lo_ng (lo_g3 c_8))
  | with_reducible exact kz_n (lo_ng (lo_g3 c_8))
  | with_reducible exact kc_n (lo_ng (lo_g3 c_8))
  | with_reducible exact lo_a (lo_g3 c_8)
  | with_reducible exact lo_l (lo_ng (lo_g4 c_9))
  | with_reducible exact kz_n (lo_ng (lo_g4 c_9))
  | with_reducible exact kc_n (lo_ng (lo_g4 c_9))
  | with_reducible exact lo_a (lo_g4 c_9)
  | with_reducible exact lo_L hj_1 nkb (lo_q hj_1 nkb (lo_p hj_1 nkb f_5_1_0 f_5_1_1 c_8 c_9) f_10_0_0) hF_13_0 hF_13_1 hF_13_2
  | with_reducible exact kz_p (lo_q hj_1 nkb (lo_p hj_1 nkb f_5_1_0 f_5_1_1 c_8 c_9) f_10_0_0) hF_12_6
  | with_reducible exact kc_p (lo_q hj_1 nkb (lo_p hj_1 nkb f_5_1_0 f_5_1_1 c_8 c_9) f_10_0_0) hq haz hF_12_3 hF_12_4 hF_12_5 hF_12_6
  | with_reducible exact lo_A hj_1 nkb (lo_q hj_1 nkb (lo_p hj_1 nkb f_5_1_0 f_5_1_1 c_8 c_9) f_10_0_0) hF_13_0 hF_13_1 hF_13_2 h_14
  | omega
set_option maxHeartbeats 60000 in
theorem lf_X7_loose_17 {nv0 : Int32} {nv1 : Int32} {nv2 : Int32} {nv3 : Int32} {nv5 : Int32} {nhh : Nat} {nww : Nat} {nkk : Nat} {ng1 : Nat → Int32} {ng2 : Nat → Int32} {ng3 : Nat → Int32} {ng4 : Nat → Int32} {ng5 : Nat → Int32} {q : Nat} {az : Nat} {fb : Nat → Option Nat} {ad : Nat → Nat} {V : Nat → Nat → Int32} {k1 : Int32} {k2 : Int32} {j_1 : Nat} (nhb : nhh ≤ 999) (nwb : nww ≤ 6) (nkb : nkk ≤ 6) (hLv : okLv (nrm nv0 nv1 nv2 nv3 nhh nv5 nww nkk ng1 ng2 ng3 ng4 ng5)) (hfb : ∀ i : Nat, i < 24 → fb i = some (ad i)) (hok : ∀ i : Nat, i < 24 → okL (V i)) (hq : q < 24) (haz : az ≤ 24) (hj_1 : j_1 < nkk) (f_5_1_0 : ¬ k1 < 0) (f_5_1_1 : ¬ nv0 ≤ k1) (c_8 : ¬ (k2 < 1)) (c_9 : k2 ≤ 20) (f_10_1_0 : ng5 j_1 = 0) : (nrm nv0 nv1 nv2 nv3 nhh nv5 nww nkk ng1 ng2 ng3 ng4 ng5) = n_loose (nrm nv0 nv1 nv2 nv3 nhh nv5 nww nkk ng1 ng2 ng3 ng4 ng5) (nI j_1) k1 k2 := by
  first
  | with_reducible exact lo_l (lo_ng (lo_g3 c_8))
  | with_reducible exact kz_n (lo_ng (lo_g3 c_8))
  | with_reducible exact kc_n (lo_ng (lo_g3 c_8))
  | with_reducible exact lo_a (lo_g3 c_8)
  | with_reducible exact lo_l (lo_ng (lo_g4 c_9))
  | with_reducible exact kz_n (lo_ng (lo_g4 c_9))
  | with_reducible exact kc_n (lo_ng (lo_g4 c_9))
  | with_reducible exact lo_a (lo_g4 c_9)
  | with_reducible exact lo_l (lo_z hj_1 nkb f_10_1_0)
  | with_reducible exact kz_n (lo_z hj_1 nkb f_10_1_0)
  | with_reducible exact kc_n (lo_z hj_1 nkb f_10_1_0)
  | with_reducible exact lo_a0 hj_1 nkb (lo_p hj_1 nkb f_5_1_0 f_5_1_1 c_8 c_9) f_10_1_0
  | omega
set_option maxHeartbeats 60000 in
theorem lf_X7_loose_18 {nv0 : Int32} {nv1 : Int32} {nv2 : Int32} {nv3 : Int32} {nv5 : Int32} {nhh : Nat} {nww : Nat} {nkk : Nat} {ng1 : Nat → Int32} {ng2 : Nat → Int32} {ng3 : Nat → Int32} {ng4 : Nat → Int32} {ng5 : Nat → Int32} {q : Nat} {az : Nat} {fb : Nat → Option Nat} {ad : Nat → Nat} {V : Nat → Nat → Int32} {k1 : Int32} {k2 : Int32} {j_1 : Nat} (nhb : nhh ≤ 999) (nwb : nww ≤ 6) (nkb : nkk ≤ 6) (hLv : okLv (nrm nv0 nv1 nv2 nv3 nhh nv5 nww nkk ng1 ng2 ng3 ng4 ng5)) (hfb : ∀ i : Nat, i < 24 → fb i = some (ad i)) (hok : ∀ i : Nat, i < 24 → okL (V i)) (hq : q < 24) (haz : az ≤ 24) (hj_1 : j_1 < nkk) (f_5_1_0 : ¬ k1 < 0) (f_5_1_1 : ¬ nv0 ≤ k1) (c_8 : ¬ (k2 < 1)) (c_9 : k2 ≤ 20) (f_10_1_0 : ng5 j_1 = 0) : az = kpN (gd_loose (nrm nv0 nv1 nv2 nv3 nhh nv5 nww nkk ng1 ng2 ng3 ng4 ng5) (nI j_1) k1 k2) az := by
  first
  | with_reducible exact lo_l (lo_ng (lo_g3 c_8))
  | with_reducible exact kz_n (lo_ng (lo_g3 c_8))
  | with_reducible exact kc_n (lo_ng (lo_g3 c_8))
  | with_reducible exact lo_a (lo_g3 c_8)
  | with_reducible exact lo_l (lo_ng (lo_g4 c_9))
  | with_reducible exact kz_n (lo_ng (lo_g4 c_9))
  | with_reducible exact kc_n (lo_ng (lo_g4 c_9))
  | with_reducible exact lo_a (lo_g4 c_9)
  | with_reducible exact lo_l (lo_z hj_1 nkb f_10_1_0)
  | with_reducible exact kz_n (lo_z hj_1 nkb f_10_1_0)
  | with_reducible exact kc_n (lo_z hj_1 nkb f_10_1_0)
  | with_reducible exact lo_a0 hj_1 nkb (lo_p hj_1 nkb f_5_1_0 f_5_1_1 c_8 c_9) f_10_1_0
  | omega
set_option maxHeartbeats 60000 in
theorem lf_X7_loose_19 {nv0 : Int32} {nv1 : Int32} {nv2 : Int32} {nv3 : Int32} {nv5 : Int32} {nhh : Nat} {nww : Nat} {nkk : Nat} {ng1 : Nat → Int32} {ng2 : Nat → Int32} {ng3 : Nat → Int32} {ng4 : Nat → Int32} {ng5 : Nat → Int32} {q : Nat} {az : Nat} {fb : Nat → Option Nat} {ad : Nat → Nat} {V : Nat → Nat → Int32} {G : Nat → Nat → Nat → Int32} {k1 : Int32} {k2 : Int32} {j_1 : Nat} (nhb : nhh ≤ 999) (nwb : nww ≤ 6) (nkb : nkk ≤ 6) (hLv : okLv (nrm nv0 nv1 nv2 nv3 nhh nv5 nww nkk ng1 ng2 ng3 ng4 ng5)) (hfb : ∀ i : Nat, i < 24 → fb i = some (ad i)) (hok : ∀ i : Nat, i < 24 → okL (V i)) (hq : q < 24) (haz : az ≤ 24) (hj_1 : j_1 < nkk) (f_5_1_0 : ¬ k1 < 0) (f_5_1_1 : ¬ nv0 ≤ k1) (c_8 : ¬ (k2 < 1)) (c_9 : k2 ≤ 20) (f_10_1_0 : ng5 j_1 = 0) : acX q az V G = kpA (gd_loose (nrm nv0 nv1 nv2 nv3 nhh nv5 nww nkk ng1 ng2 ng3 ng4 ng5) (nI j_1) k1 k2) (nrm nv0 nv1 nv2 nv3 nhh nv5 nww nkk ng1 ng2 ng3 ng4 ng5) az (acX q az V G) := by
  first
  | with_reducible exact lo_l (lo_ng (lo_g3 c_8))
  | with_reducible exact kz_n (lo_ng (lo_g3 c_8))
  | with_reducible exact kc_n (lo_ng (lo_g3 c_8))
  | with_reducible exact lo_a (lo_g3 c_8)
  | with_reducible exact lo_l (lo_ng (lo_g4 c_9))
  | with_reducible exact kz_n (lo_ng (lo_g4 c_9))
  | with_reducible exact kc_n (lo_ng (lo_g4 c_9))
  | with_reducible exact lo_a (lo_g4 c_9)
  | with_reducible exact lo_l (lo_z hj_1 nkb f_10_1_0)
  | with_reducible exact kz_n (lo_z hj_1 nkb f_10_1_0)
  | with_reducible exact kc_n (lo_z hj_1 nkb f_10_1_0)
  | with_reducible exact lo_a0 hj_1 nkb (lo_p hj_1 nkb f_5_1_0 f_5_1_1 c_8 c_9) f_10_1_0
  | omega
set_option maxHeartbeats 60000 in
theorem lf_X7_loose_20 {nv0 : Int32} {nv1 : Int32} {nv2 : Int32} {nv3 : Int32} {nv5 : Int32} {nhh : Nat} {nww : Nat} {nkk : Nat} {ng1 : Nat → Int32} {ng2 : Nat → Int32} {ng3 : Nat → Int32} {ng4 : Nat → Int32} {ng5 : Nat → Int32} {q : Nat} {az : Nat} {fb : Nat → Option Nat} {ad : Nat → Nat} {V : Nat → Nat → Int32} {k1 : Int32} {k2 : Int32} {j_1 : Nat} (nhb : nhh ≤ 999) (nwb : nww ≤ 6) (nkb : nkk ≤ 6) (hLv : okLv (nrm nv0 nv1 nv2 nv3 nhh nv5 nww nkk ng1 ng2 ng3 ng4 ng5)) (hfb : ∀ i : Nat, i < 24 → fb i = some (ad i)) (hok : ∀ i : Nat, i < 24 → okL (V i)) (hq : q < 24) (haz : az ≤ 24) (hj_1 : j_1 < nkk) (f_5_1_0 : ¬ k1 < 0) (f_5_1_1 : ¬ nv0 ≤ k1) (c_8 : ¬ (k2 < 1)) (c_9 : k2 ≤ 20) (f_10_1_0 : ng5 j_1 = 0) : (-1000002) = (a_loose (nrm nv0 nv1 nv2 nv3 nhh nv5 nww nkk ng1 ng2 ng3 ng4 ng5) (nI j_1) k1 k2) := by
  first
  | with_reducible exact lo_l (lo_ng (lo_g3 c_8))
  | with_reducible exact kz_n (lo_ng (lo_g3 c_8))
  | with_reducible exact kc_n (lo_ng (lo_g3 c_8))
  | with_reducible exact lo_a (lo_g3 c_8)
  | with_reducible exact lo_l (lo_ng (lo_g4 c_9))
  | with_reducible exact kz_n (lo_ng (lo_g4 c_9))
  | with_reducible exact kc_n (lo_ng (lo_g4 c_9))
  | with_reducible exact lo_a (lo_g4 c_9)
  | with_reducible exact lo_l (lo_z hj_1 nkb f_10_1_0)
  | with_reducible exact kz_n (lo_z hj_1 nkb f_10_1_0)
  | with_reducible exact kc_n (lo_z hj_1 nkb f_10_1_0)
  | with_reducible exact lo_a0 hj_1 nkb (lo_p hj_1 nkb f_5_1_0 f_5_1_1 c_8 c_9) f_10_1_0
  | omega
set_option maxHeartbeats 60000 in
theorem lf_X7_loose_21 {nv0 : Int32} {nv1 : Int32} {nv2 : Int32} {nv3 : Int32} {nv5 : Int32} {nhh : Nat} {nww : Nat} {nkk : Nat} {ng1 : Nat → Int32} {ng2 : Nat → Int32} {ng3 : Nat → Int32} {ng4 : Nat → Int32} {ng5 : Nat → Int32} {q : Nat} {az : Nat} {fb : Nat → Option Nat} {ad : Nat → Nat} {V : Nat → Nat → Int32} {k1 : Int32} {k2 : Int32} {j_1 : Nat} (nhb : nhh ≤ 999) (nwb : nww ≤ 6) (nkb : nkk ≤ 6) (hLv : okLv (nrm nv0 nv1 nv2 nv3 nhh nv5 nww nkk ng1 ng2 ng3 ng4 ng5)) (hfb : ∀ i : Nat, i < 24 → fb i = some (ad i)) (hok : ∀ i : Nat, i < 24 → okL (V i)) (hq : q < 24) (haz : az ≤ 24) (hj_1 : j_1 < nkk) (f_5_1_0 : ¬ k1 < 0) (f_5_1_1 : ¬ nv0 ≤ k1) (c_8 : ¬ (k2 < 1)) (c_9 : ¬ (k2 ≤ 20)) : (nrm nv0 nv1 nv2 nv3 nhh nv5 nww nkk ng1 ng2 ng3 ng4 ng5) = n_loose (nrm nv0 nv1 nv2 nv3 nhh nv5 nww nkk ng1 ng2 ng3 ng4 ng5) (nI j_1) k1 k2 := by
  first
  | with_reducible exact lo_l (lo_ng (lo_g3 c_8))
  | with_reducible exact kz_n (lo_ng (lo_g3 c_8))
  | with_reducible exact kc_n (lo_ng (lo_g3 c_8))
  | with_reducible exact lo_a (lo_g3 c_8)
  | with_reducible exact lo_l (lo_ng (lo_g4 c_9))
  | with_reducible exact kz_n (lo_ng (lo_g4 c_9))
  | with_reducible exact kc_n (lo_ng (lo_g4 c_9))
  | with_reducible exact lo_a (lo_g4 c_9)
  | omega
set_option maxHeartbeats 60000 in
theorem lf_X7_loose_22 {nv0 : Int32} {nv1 : Int32} {nv2 : Int32} {nv3 : Int32} {nv5 : Int32} {nhh : Nat} {nww : Nat} {nkk : Nat} {ng1 : Nat → Int32} {ng2 : Nat → Int32} {ng3 : Nat → Int32} {ng4 : Nat → Int32} {ng5 : Nat → Int32} {q : Nat} {az : Nat} {fb : Nat → Option Nat} {ad : Nat → Nat} {V : Nat → Nat → Int32} {k1 : Int32} {k2 : Int32} {j_1 : Nat} (nhb : nhh ≤ 999) (nwb : nww ≤ 6) (nkb : nkk ≤ 6) (hLv : okLv (nrm nv0 nv1 nv2 nv3 nhh nv5 nww nkk ng1 ng2 ng3 ng4 ng5)) (hfb : ∀ i : Nat, i < 24 → fb i = some (ad i)) (hok : ∀ i : Nat, i < 24 → okL (V i)) (hq : q < 24) (haz : az ≤ 24) (hj_1 : j_1 < nkk) (f_5_1_0 : ¬ k1 < 0) (f_5_1_1 : ¬ nv0 ≤ k1) (c_8 : ¬ (k2 < 1)) (c_9 : ¬ (k2 ≤ 20)) : az = kpN (gd_loose (nrm nv0 nv1 nv2 nv3 nhh nv5 nww nkk ng1 ng2 ng3 ng4 ng5) (nI j_1) k1 k2) az := by
  first
  | with_reducible exact lo_l (lo_ng (lo_g3 c_8))
  | with_reducible exact kz_n (lo_ng (lo_g3 c_8))
  | with_reducible exact kc_n (lo_ng (lo_g3 c_8))
  | with_reducible exact lo_a (lo_g3 c_8)
  | with_reducible exact lo_l (lo_ng (lo_g4 c_9))
  | with_reducible exact kz_n (lo_ng (lo_g4 c_9))
  | with_reducible exact kc_n (lo_ng (lo_g4 c_9))
  | with_reducible exact lo_a (lo_g4 c_9)
  | omega
set_option maxHeartbeats 60000 in
theorem lf_X7_loose_23 {nv0 : Int32} {nv1 : Int32} {nv2 : Int32} {nv3 : Int32} {nv5 : Int32} {nhh : Nat} {nww : Nat} {nkk : Nat} {ng1 : Nat → Int32} {ng2 : Nat → Int32} {ng3 : Nat → Int32} {ng4 : Nat → Int32} {ng5 : Nat → Int32} {q : Nat} {az : Nat} {fb : Nat → Option Nat} {ad : Nat → Nat} {V : Nat → Nat → Int32} {G : Nat → Nat → Nat → Int32} {k1 : Int32} {k2 : Int32} {j_1 : Nat} (nhb : nhh ≤ 999) (nwb : nww ≤ 6) (nkb : nkk ≤ 6) (hLv : okLv (nrm nv0 nv1 nv2 nv3 nhh nv5 nww nkk ng1 ng2 ng3 ng4 ng5)) (hfb : ∀ i : Nat, i < 24 → fb i = some (ad i)) (hok : ∀ i : Nat, i < 24 → okL (V i)) (hq : q < 24) (haz : az ≤ 24) (hj_1 : j_1 < nkk) (f_5_1_0 : ¬ k1 < 0) (f_5_1_1 : ¬ nv0 ≤ k1) (c_8 : ¬ (k2 < 1)) (c_9 : ¬ (k2 ≤ 20)) : acX q az V G = kpA (gd_loose (nrm nv0 nv1 nv2 nv3 nhh nv5 nww nkk ng1 ng2 ng3 ng4 ng5) (nI j_1) k1 k2) (nrm nv0 nv1 nv2 nv3 nhh nv5 nww nkk ng1 ng2 ng3 ng4 ng5) az (acX q az V G) := by
  first
  | with_reducible exact lo_l (lo_ng (lo_g3 c_8))
  | with_reducible exact kz_n (lo_ng (lo_g3 c_8))
  | with_reducible exact kc_n (lo_ng (lo_g3 c_8))
  | with_reducible exact lo_a (lo_g3 c_8)
  | with_reducible exact lo_l (lo_ng (lo_g4 c_9))
  | with_reducible exact kz_n (lo_ng (lo_g4 c_9))
  | with_reducible exact kc_n (lo_ng (lo_g4 c_9))
  | with_reducible exact lo_a (lo_g4 c_9)
  | omega
set_option maxHeartbeats 60000 in
theorem lf_X7_loose_24 {nv0 : Int32} {nv1 : Int32} {nv2 : Int32} {nv3 : Int32} {nv5 : Int32} {nhh : Nat} {nww : Nat} {nkk : Nat} {ng1 : Nat → Int32} {ng2 : Nat → Int32} {ng3 : Nat → Int32} {ng4 : Nat → Int32} {ng5 : Nat → Int32} {q : Nat} {az : Nat} {fb : Nat → Option Nat} {ad : Nat → Nat} {V : Nat → Nat → Int32} {k1 : Int32} {k2 : Int32} {j_1 : Nat} (nhb : nhh ≤ 999) (nwb : nww ≤ 6) (nkb : nkk ≤ 6) (hLv : okLv (nrm nv0 nv1 nv2 nv3 nhh nv5 nww nkk ng1 ng2 ng3 ng4 ng5)) (hfb : ∀ i : Nat, i < 24 → fb i = some (ad i)) (hok : ∀ i : Nat, i < 24 → okL (V i)) (hq : q < 24) (haz : az ≤ 24) (hj_1 : j_1 < nkk) (f_5_1_0 : ¬ k1 < 0) (f_5_1_1 : ¬ nv0 ≤ k1) (c_8 : ¬ (k2 < 1)) (c_9 : ¬ (k2 ≤ 20)) : (-1000001) = (a_loose (nrm nv0 nv1 nv2 nv3 nhh nv5 nww nkk ng1 ng2 ng3 ng4 ng5) (nI j_1) k1 k2) := by
  first
  | with_reducible exact lo_l (lo_ng (lo_g3 c_8))
  | with_reducible exact kz_n (lo_ng (lo_g3 c_8))
  | with_reducible exact kc_n (lo_ng (lo_g3 c_8))
  | with_reducible exact lo_a (lo_g3 c_8)
  | with_reducible exact lo_l (lo_ng (lo_g4 c_9))
  | with_reducible exact kz_n (lo_ng (lo_g4 c_9))
  | with_reducible exact kc_n (lo_ng (lo_g4 c_9))
  | with_reducible exact lo_a (lo_g4 c_9)
  | omega
set_option maxHeartbeats 4000000 in
set_option maxRecDepth 100000 in
theorem r_X7_loose (l : Launch) (dC : Nat → ClassId) (dI : Nat → Nat → Nat) (cI cZ cL cJ : ClassId) (sz : Nat) (x : Nat) (ro : Nat) (ta : Nat) (no : Nat) (ac : Nat) (im : Nat) (tr : Nat) (pl : Nat) (cs : Nat) (ak : Nat) (xf : Int32) (xg : Int32) (nv0 : Int32) (nv1 : Int32) (nv2 : Int32) (nv3 : Int32) (nv5 : Int32) (nhh : Nat) (nww : Nat) (nkk : Nat) (nb1 : Nat) (nb2 : Nat) (nb3 : Nat) (nb4 : Nat) (nb5 : Nat) (ng1 : Nat → Int32) (ng2 : Nat → Int32) (ng3 : Nat → Int32) (ng4 : Nat → Int32) (ng5 : Nat → Int32) (be : Nat) (q : Nat) (az : Nat) (fb : Nat → Option Nat) (ad : Nat → Nat) (bd : Nat → Nat → Nat) (V : Nat → Nat → Int32) (G : Nat → Nat → Nat → Int32) (k0 : Int32) (k1 : Int32) (k2 : Int32) (nhb : nhh ≤ 999) (nwb : nww ≤ 6) (nkb : nkk ≤ 6) (hLv : okLv (nrm nv0 nv1 nv2 nv3 nhh nv5 nww nkk ng1 ng2 ng3 ng4 ng5)) (hfb : ∀ i : Nat, i < 24 → fb i = some (ad i)) (hok : ∀ i : Nat, i < 24 → okL (V i)) (hq : q < 24) (haz : az ≤ 24) : Met l yX7_loose wsX7_loose ({ frames := 3, cells := 0, slots := 0, locals := 122 }) (va_Pc [.ref x, .int k0, .int k1, .int k2] (fun U => U.heap.size = sz ∧ va_P (dC, dI) vwCl (([(xo_7_rrrrrrrrrii x ro ta no ac im tr pl cs ak xf xg), (xo_3_iiiiiiiirrrrr no nv0 nv1 nv2 nv3 (nI nhh) nv5 (nI nww) (nI nkk) nb1 nb2 nb3 nb4 nb5), (xI nb1 cI 6 ng1), (xI nb2 cI 6 ng2), (xI nb3 cI 6 ng3), (xI nb4 cI 6 ng4), (xI nb5 cI 6 ng5), (xo_0_rii ac be (nI q) (nI az)), (xJ be cL 24 fb)] : va_W) ++ lvs cI 24 ad bd V G) U.heap ∧ va_K (dC, dI) vwCl [(cI, .int), (cZ, .boolean), (cL, .object RX3), (cJ, .array .int)] U ∧ va_D (fun _ => True) (([(xo_7_rrrrrrrrrii x ro ta no ac im tr pl cs ak xf xg), (xo_3_iiiiiiiirrrrr no nv0 nv1 nv2 nv3 (nI nhh) nv5 (nI nww) (nI nkk) nb1 nb2 nb3 nb4 nb5), (xI nb1 cI 6 ng1), (xI nb2 cI 6 ng2), (xI nb3 cI 6 ng3), (xI nb4 cI 6 ng4), (xI nb5 cI 6 ng5), (xo_0_rii ac be (nI q) (nI az)), (xJ be cL 24 fb)] : va_W) ++ lvs cI 24 ad bd V G))) (va_Qi (fun r (_ : Unit) => r = (a_loose (nrm nv0 nv1 nv2 nv3 nhh nv5 nww nkk ng1 ng2 ng3 ng4 ng5) k0 k1 k2)) (fun (_ : Unit) t => ∃ (Vn : Nat → Nat → Int32) (Gn : Nat → Nat → Nat → Int32) (nv0n : Int32) (nv1n : Int32) (nv2n : Int32) (nv3n : Int32) (nv5n : Int32) (ng1n : Nat → Int32) (ng2n : Nat → Int32) (ng3n : Nat → Int32) (ng4n : Nat → Int32) (ng5n : Nat → Int32) (nhn : Nat) (nwn : Nat) (nkn : Nat) (qn : Nat) (azn : Nat), va_P (dC, dI) vwCl (([(xo_7_rrrrrrrrrii x ro ta no ac im tr pl cs ak xf xg), (xo_3_iiiiiiiirrrrr no nv0n nv1n nv2n nv3n (nI nhn) nv5n (nI nwn) (nI nkn) nb1 nb2 nb3 nb4 nb5), (xI nb1 cI 6 ng1n), (xI nb2 cI 6 ng2n), (xI nb3 cI 6 ng3n), (xI nb4 cI 6 ng4n), (xI nb5 cI 6 ng5n), (xo_0_rii ac be (nI qn) (nI azn)), (xJ be cL 24 fb)] : va_W) ++ lvs cI 24 ad bd Vn Gn) t.heap ∧ va_D (va_A (([(xo_7_rrrrrrrrrii x ro ta no ac im tr pl cs ak xf xg), (xo_3_iiiiiiiirrrrr no nv0 nv1 nv2 nv3 (nI nhh) nv5 (nI nww) (nI nkk) nb1 nb2 nb3 nb4 nb5), (xI nb1 cI 6 ng1), (xI nb2 cI 6 ng2), (xI nb3 cI 6 ng3), (xI nb4 cI 6 ng4), (xI nb5 cI 6 ng5), (xo_0_rii ac be (nI q) (nI az)), (xJ be cL 24 fb)] : va_W) ++ lvs cI 24 ad bd V G) sz) (([(xo_7_rrrrrrrrrii x ro ta no ac im tr pl cs ak xf xg), (xo_3_iiiiiiiirrrrr no nv0n nv1n nv2n nv3n (nI nhn) nv5n (nI nwn) (nI nkn) nb1 nb2 nb3 nb4 nb5), (xI nb1 cI 6 ng1n), (xI nb2 cI 6 ng2n), (xI nb3 cI 6 ng3n), (xI nb4 cI 6 ng4n), (xI nb5 cI 6 ng5n), (xo_0_rii ac be (nI qn) (nI azn)), (xJ be cL 24 fb)] : va_W) ++ lvs cI 24 ad bd Vn Gn) ∧ (∀ i : Nat, i < 24 → okL (Vn i)) ∧ qn < 24 ∧ azn ≤ 24 ∧ nhn ≤ 999 ∧ nwn ≤ 6 ∧ nkn ≤ 6 ∧ (nrm nv0n nv1n nv2n nv3n nhn nv5n nwn nkn ng1n ng2n ng3n ng4n ng5n) = n_loose (nrm nv0 nv1 nv2 nv3 nhh nv5 nww nkk ng1 ng2 ng3 ng4 ng5) k0 k1 k2 ∧ azn = kpN (gd_loose (nrm nv0 nv1 nv2 nv3 nhh nv5 nww nkk ng1 ng2 ng3 ng4 ng5) k0 k1 k2) az ∧ acX qn azn Vn Gn = kpA (gd_loose (nrm nv0 nv1 nv2 nv3 nhh nv5 nww nkk ng1 ng2 ng3 ng4 ng5) k0 k1 k2) (nrm nv0 nv1 nv2 nv3 nhh nv5 nww nkk ng1 ng2 ng3 ng4 ng5) az (acX q az V G)) (va_A (([(xo_7_rrrrrrrrrii x ro ta no ac im tr pl cs ak xf xg), (xo_3_iiiiiiiirrrrr no nv0 nv1 nv2 nv3 (nI nhh) nv5 (nI nww) (nI nkk) nb1 nb2 nb3 nb4 nb5), (xI nb1 cI 6 ng1), (xI nb2 cI 6 ng2), (xI nb3 cI 6 ng3), (xI nb4 cI 6 ng4), (xI nb5 cI 6 ng5), (xo_0_rii ac be (nI q) (nI az)), (xJ be cL 24 fb)] : va_W) ++ lvs cI 24 ad bd V G) sz)) 0 0 (va_A (([(xo_7_rrrrrrrrrii x ro ta no ac im tr pl cs ak xf xg), (xo_3_iiiiiiiirrrrr no nv0 nv1 nv2 nv3 (nI nhh) nv5 (nI nww) (nI nkk) nb1 nb2 nb3 nb4 nb5), (xI nb1 cI 6 ng1), (xI nb2 cI 6 ng2), (xI nb3 cI 6 ng3), (xI nb4 cI 6 ng4), (xI nb5 cI 6 ng5), (xo_0_rii ac be (nI q) (nI az)), (xJ be cL 24 fb)] : va_W) ++ lvs cI 24 ad bd V G) sz) := by
  refine Met.ofW (cc := cX7_loose) (maxL := 4) (ret := (some .int)) (by decide) rfl ?_
  intro p e s m args below meth c s₁ B hml hv
  obtain ⟨rfl, hsz, hP, hK, hD0⟩ := hv
  have hx := B.exec
  have hb := B.bytes
  have hr := B.returns
  have hts := atoms_spec (ws := wsX7_loose) B.pre
  have hown : s.vm.findClass RX7 = some m.cls := findClass_of_methodNamed B.named
  have hlocks := B.notSynchronized
  subst hsz
  have hD := hD0.self (sz := s.heap.size)
  generalize hAe : va_A (([(xo_7_rrrrrrrrrii x ro ta no ac im tr pl cs ak xf xg), (xo_3_iiiiiiiirrrrr no nv0 nv1 nv2 nv3 (nI nhh) nv5 (nI nww) (nI nkk) nb1 nb2 nb3 nb4 nb5), (xI nb1 cI 6 ng1), (xI nb2 cI 6 ng2), (xI nb3 cI 6 ng3), (xI nb4 cI 6 ng4), (xI nb5 cI 6 ng5), (xo_0_rii ac be (nI q) (nI az)), (xJ be cL 24 fb)] : va_W) ++ lvs cI 24 ad bd V G) s.heap.size = A at hD ⊢
  have hA : ∀ q : Nat, s.heap.size ≤ q → A q := fun q h => by rw [← hAe]; exact Or.inr h
  have hS : va_S A s.heap s.heap [] := va_S.rf
  have hP : va_P (dC, dI) vwCl (([(xo_7_rrrrrrrrrii x ro ta no ac im tr pl cs ak xf xg), (xo_3_iiiiiiiirrrrr no nv0 nv1 nv2 nv3 (nI nhh) nv5 (nI nww) (nI nkk) nb1 nb2 nb3 nb4 nb5), (xI nb1 cI 6 ng1), (xI nb2 cI 6 ng2), (xI nb3 cI 6 ng3), (xI nb4 cI 6 ng4), (xI nb5 cI 6 ng5), (xo_0_rii ac be (nI q) (nI az)), (xJ be cL 24 fb)] : va_W) ++ lvs cI 24 ad bd V G) s.heap := hP
  have hl := lv_entry ([.ref x, .int k0, .int k1, .int k2]) (n := 4) (Nat.le_of_ble_eq_true rfl)
  rw [lg_entry_eq]
  generalize (lg_sl ([.ref x, .int k0, .int k1, .int k2]) ++ List.replicate (4 - (lg_sl ([.ref x, .int k0, .int k1, .int k2])).length) Slot.unset).toArray = ls at hl ⊢
  have hl : lv_has ls 4 [(0, .ref x), (1, .int k0), (2, .int k1), (3, .int k2)] := hl
  refine lv_aload_n hx hb dX7_loose_0 rfl (lv_at hl 0 rfl) ?_
  refine va_get (D := (dC, dI)) (ci := 7) (v := .ref no) (C := RX7) (T := TX7) (N := 11) hx hb hts i_X7_loose_X7 hown hK hP 0 rfl rfl 2 (by decide) (hts _ mx_X7_loose_1) (fun _ h9 => h9) rfl dX7_loose_1 ?_
  refine lv_iload_n hx hb dX7_loose_4 rfl (lv_at hl 1 rfl) ?_
  have hPc_1 := hP.sub (ws' := [(xo_3_iiiiiiiirrrrr no nv0 nv1 nv2 nv3 (nI nhh) nv5 (nI nww) (nI nkk) nb1 nb2 nb3 nb4 nb5), (xI nb1 cI 6 ng1), (xI nb2 cI 6 ng2), (xI nb3 cI 6 ng3), (xI nb4 cI 6 ng4), (xI nb5 cI 6 ng5)]) [1, 2, 3, 4, 5, 6] rfl
  refine vp_callSi (W.runV (As := [.int k0]) (rest := []) ⟨hx, hb, hml, hown, hts⟩ (r_X3_hasSound l dC dI cI cZ cL cJ no nv0 nv1 nv2 nv3 nv5 nhh nww nkk nb1 nb2 nb3 nb4 nb5 ng1 ng2 ng3 ng4 ng5 k0 (by omega) (by omega) (by omega)) (cwV 1 hts gX7_loose_X3_hasSound rfl rfl rfl (by decide +kernel) ⟨Nat.le_of_ble_eq_true rfl, Nat.le_of_ble_eq_true rfl⟩) (pvP 3 1 hK hP rfl rfl hPc_1) rfl rfl hl.1 rfl (lv_room (Nat.le_of_ble_eq_true rfl)) dX7_loose_5 ⟨Nat.le_of_ble_eq_true rfl, Nat.le_of_ble_eq_true rfl⟩) (fun r_1 h_1 => ?_)
  rcases h_1 with ⟨h_1, f_1_0_0⟩ | ⟨h_1, f_1_1_0⟩
  · subst h_1
    refine lv_if_eq (tgt := 33) hx hb dX7_loose_8 (by decide) (fun _ => ?_) (fun c_ => absurd (by decide) c_)
    refine lv_ldc (own := RX7) (v := (-1000001)) hx hb hown (hts _ mx_X7_loose_2) dX7_loose_33 ?_
    have hX9 := cut2P (cx := [(xo_7_rrrrrrrrrii x ro ta no ac im tr pl cs ak xf xg), (xo_3_iiiiiiiirrrrr no nv0 nv1 nv2 nv3 (nI nhh) nv5 (nI nww) (nI nkk) nb1 nb2 nb3 nb4 nb5), (xI nb1 cI 6 ng1), (xI nb2 cI 6 ng2), (xI nb3 cI 6 ng3), (xI nb4 cI 6 ng4), (xI nb5 cI 6 ng5), (xo_0_rii ac be (nI q) (nI az)), (xJ be cL 24 fb)]) hP hD [0, 1, 2, 3, 4, 5, 6, 7, 8] (by decide +kernel) rfl
    exact W.iret (v := (-1000001)) hx hb hr (fun t ht hW => ⟨⟨(-1000001), (), rfl, (lf_X7_loose_4 nhb nwb nkb hLv hfb hok hq haz f_1_0_0), ⟨V, G, nv0, nv1, nv2, nv3, nv5, ng1, ng2, ng3, ng4, ng5, nhh, nww, nkk, q, az, va_Ht ht hX9.1, hX9.2, hok, (by omega), (by omega), (by omega), (by omega), (by omega), (lf_X7_loose_1 nhb nwb nkb hLv hfb hok hq haz f_1_0_0), (lf_X7_loose_2 nhb nwb nkb hLv hfb hok hq haz f_1_0_0), (lf_X7_loose_3 nhb nwb nkb hLv hfb hok hq haz f_1_0_0)⟩⟩, hS.F ht⟩) hS.2.2 dX7_loose_35
  · subst h_1
    obtain ⟨j_1, hj_1, rfl⟩ := vp_in_of f_1_1_0 (by omega)
    refine lv_if_eq (tgt := 33) hx hb dX7_loose_8 (by decide) (fun c_ => absurd c_ (by decide)) (fun _ => ?_)
    refine lv_aload_n hx hb dX7_loose_11 rfl (lv_at hl 0 rfl) ?_
    refine va_get (D := (dC, dI)) (ci := 7) (v := .ref no) (C := RX7) (T := TX7) (N := 11) hx hb hts i_X7_loose_X7 hown hK hP 0 rfl rfl 2 (by decide) (hts _ mx_X7_loose_1) (fun _ h9 => h9) rfl dX7_loose_12 ?_
    refine lv_iload_n hx hb dX7_loose_15 rfl (lv_at hl 2 rfl) ?_
    have hPc_5 := hP.sub (ws' := [(xo_3_iiiiiiiirrrrr no nv0 nv1 nv2 nv3 (nI nhh) nv5 (nI nww) (nI nkk) nb1 nb2 nb3 nb4 nb5), (xI nb1 cI 6 ng1), (xI nb2 cI 6 ng2), (xI nb3 cI 6 ng3), (xI nb4 cI 6 ng4), (xI nb5 cI 6 ng5)]) [1, 2, 3, 4, 5, 6] rfl
    refine vp_callSi (W.runV (As := [.int k1]) (rest := []) ⟨hx, hb, hml, hown, hts⟩ (r_X3_hasCell l dC dI cI cZ cL cJ no nv0 nv1 nv2 nv3 nv5 nhh nww nkk nb1 nb2 nb3 nb4 nb5 ng1 ng2 ng3 ng4 ng5 k1 (by omega) (by omega) (by omega)) (cwV 1 hts gX7_loose_X3_hasCell rfl rfl rfl (by decide +kernel) ⟨Nat.le_of_ble_eq_true rfl, Nat.le_of_ble_eq_true rfl⟩) (pvP 3 1 hK hP rfl rfl hPc_5) rfl rfl hl.1 rfl (lv_room (Nat.le_of_ble_eq_true rfl)) dX7_loose_16 ⟨Nat.le_of_ble_eq_true rfl, Nat.le_of_ble_eq_true rfl⟩) (fun r_5 h_5 => ?_)
    rcases h_5 with ⟨h_5, f_5_0_0⟩ | ⟨h_5, f_5_1_0, f_5_1_1⟩
    · subst h_5
      refine lv_if_eq (tgt := 33) hx hb dX7_loose_19 (by decide) (fun _ => ?_) (fun c_ => absurd (by decide) c_)
      refine lv_ldc (own := RX7) (v := (-1000001)) hx hb hown (hts _ mx_X7_loose_2) dX7_loose_33 ?_
      have hX9 := cut2P (cx := [(xo_7_rrrrrrrrrii x ro ta no ac im tr pl cs ak xf xg), (xo_3_iiiiiiiirrrrr no nv0 nv1 nv2 nv3 (nI nhh) nv5 (nI nww) (nI nkk) nb1 nb2 nb3 nb4 nb5), (xI nb1 cI 6 ng1), (xI nb2 cI 6 ng2), (xI nb3 cI 6 ng3), (xI nb4 cI 6 ng4), (xI nb5 cI 6 ng5), (xo_0_rii ac be (nI q) (nI az)), (xJ be cL 24 fb)]) hP hD [0, 1, 2, 3, 4, 5, 6, 7, 8] (by decide +kernel) rfl
      exact W.iret (v := (-1000001)) hx hb hr (fun t ht hW => ⟨⟨(-1000001), (), rfl, (lf_X7_loose_8 nhb nwb nkb hLv hfb hok hq haz hj_1 f_5_0_0), ⟨V, G, nv0, nv1, nv2, nv3, nv5, ng1, ng2, ng3, ng4, ng5, nhh, nww, nkk, q, az, va_Ht ht hX9.1, hX9.2, hok, (by omega), (by omega), (by omega), (by omega), (by omega), (lf_X7_loose_5 nhb nwb nkb hLv hfb hok hq haz hj_1 f_5_0_0), (lf_X7_loose_6 nhb nwb nkb hLv hfb hok hq haz hj_1 f_5_0_0), (lf_X7_loose_7 nhb nwb nkb hLv hfb hok hq haz hj_1 f_5_0_0)⟩⟩, hS.F ht⟩) hS.2.2 dX7_loose_35
    · subst h_5
      refine lv_if_eq (tgt := 33) hx hb dX7_loose_19 (by decide) (fun c_ => absurd c_ (by decide)) (fun _ => ?_)
      refine lv_iload_n hx hb dX7_loose_22 rfl (lv_at hl 3 rfl) ?_
      refine lv_iconst (v := 1) hx hb dX7_loose_23 (by decide) ?_
      refine lv_icmp_lt (tgt := 33) hx hb dX7_loose_24 (by decide) (fun c_8 => ?_) (fun c_8 => ?_)
      · skip
        refine lv_ldc (own := RX7) (v := (-1000001)) hx hb hown (hts _ mx_X7_loose_2) dX7_loose_33 ?_
        have hX9 := cut2P (cx := [(xo_7_rrrrrrrrrii x ro ta no ac im tr pl cs ak xf xg), (xo_3_iiiiiiiirrrrr no nv0 nv1 nv2 nv3 (nI nhh) nv5 (nI nww) (nI nkk) nb1 nb2 nb3 nb4 nb5), (xI nb1 cI 6 ng1), (xI nb2 cI 6 ng2), (xI nb3 cI 6 ng3), (xI nb4 cI 6 ng4), (xI nb5 cI 6 ng5), (xo_0_rii ac be (nI q) (nI az)), (xJ be cL 24 fb)]) hP hD [0, 1, 2, 3, 4, 5, 6, 7, 8] (by decide +kernel) rfl
        exact W.iret (v := (-1000001)) hx hb hr (fun t ht hW => ⟨⟨(-1000001), (), rfl, (lf_X7_loose_12 nhb nwb nkb hLv hfb hok hq haz hj_1 f_5_1_0 f_5_1_1 c_8), ⟨V, G, nv0, nv1, nv2, nv3, nv5, ng1, ng2, ng3, ng4, ng5, nhh, nww, nkk, q, az, va_Ht ht hX9.1, hX9.2, hok, (by omega), (by omega), (by omega), (by omega), (by omega), (lf_X7_loose_9 nhb nwb nkb hLv hfb hok hq haz hj_1 f_5_1_0 f_5_1_1 c_8), (lf_X7_loose_10 nhb nwb nkb hLv hfb hok hq haz hj_1 f_5_1_0 f_5_1_1 c_8), (lf_X7_loose_11 nhb nwb nkb hLv hfb hok hq haz hj_1 f_5_1_0 f_5_1_1 c_8)⟩⟩, hS.F ht⟩) hS.2.2 dX7_loose_35
      · skip
        refine lv_iload_n hx hb dX7_loose_27 rfl (lv_at hl 3 rfl) ?_
        refine lv_bipush (v := 20) hx hb dX7_loose_28 (by decide) ?_
        refine lv_icmp_le (tgt := 36) hx hb dX7_loose_30 (by decide) (fun c_9 => ?_) (fun c_9 => ?_)
        · skip
          refine lv_aload_n hx hb dX7_loose_36 rfl (lv_at hl 0 rfl) ?_
          refine va_get (D := (dC, dI)) (ci := 7) (v := .ref no) (C := RX7) (T := TX7) (N := 11) hx hb hts i_X7_loose_X7 hown hK hP 0 rfl rfl 2 (by decide) (hts _ mx_X7_loose_1) (fun _ h9 => h9) rfl dX7_loose_37 ?_
          refine lv_iload_n hx hb dX7_loose_40 rfl (lv_at hl 1 rfl) ?_
          have hPc_10 := hP.sub (ws' := [(xo_3_iiiiiiiirrrrr no nv0 nv1 nv2 nv3 (nI nhh) nv5 (nI nww) (nI nkk) nb1 nb2 nb3 nb4 nb5), (xI nb1 cI 6 ng1), (xI nb2 cI 6 ng2), (xI nb3 cI 6 ng3), (xI nb4 cI 6 ng4), (xI nb5 cI 6 ng5)]) [1, 2, 3, 4, 5, 6] rfl
          refine vp_callSi (W.runV (As := [.int (nI j_1)]) (rest := []) ⟨hx, hb, hml, hown, hts⟩ (r_X3_isLoose l dC dI cI cZ cL cJ no nv0 nv1 nv2 nv3 nv5 nhh nww nkk nb1 nb2 nb3 nb4 nb5 ng1 ng2 ng3 ng4 ng5 j_1 (by omega) (by omega) (by omega) (by omega)) (cwV 1 hts gX7_loose_X3_isLoose rfl rfl rfl (by decide +kernel) ⟨Nat.le_of_ble_eq_true rfl, Nat.le_of_ble_eq_true rfl⟩) (pvP 3 1 hK hP rfl rfl hPc_10) rfl rfl hl.1 rfl (lv_room (Nat.le_of_ble_eq_true rfl)) dX7_loose_41 ⟨Nat.le_of_ble_eq_true rfl, Nat.le_of_ble_eq_true rfl⟩) (fun r_10 h_10 => ?_)
          rcases h_10 with ⟨h_10, f_10_0_0⟩ | ⟨h_10, f_10_1_0⟩
          · subst h_10
            refine lv_if_eq (tgt := 50) hx hb dX7_loose_44 (by decide) (fun _ => ?_) (fun c_ => absurd (by decide) c_)
            refine lv_aload_n hx hb dX7_loose_50 rfl (lv_at hl 0 rfl) ?_
            refine va_get (D := (dC, dI)) (ci := 7) (v := .ref ac) (C := RX7) (T := TX7) (N := 11) hx hb hts i_X7_loose_X7 hown hK hP 0 rfl rfl 3 (by decide) (hts _ mx_X7_loose_4) (fun _ h9 => h9) rfl dX7_loose_51 ?_
            refine lv_aload_n hx hb dX7_loose_54 rfl (lv_at hl 0 rfl) ?_
            refine va_get (D := (dC, dI)) (ci := 7) (v := .ref no) (C := RX7) (T := TX7) (N := 11) hx hb hts i_X7_loose_X7 hown hK hP 0 rfl rfl 2 (by decide) (hts _ mx_X7_loose_1) (fun _ h9 => h9) rfl dX7_loose_55 ?_
            have hc_12 := cutP (cx := [(xo_0_rii ac be (nI q) (nI az)), (xJ be cL 24 fb), (xo_3_iiiiiiiirrrrr no nv0 nv1 nv2 nv3 (nI nhh) nv5 (nI nww) (nI nkk) nb1 nb2 nb3 nb4 nb5), (xI nb1 cI 6 ng1), (xI nb2 cI 6 ng2), (xI nb3 cI 6 ng3), (xI nb4 cI 6 ng4), (xI nb5 cI 6 ng5)]) hP hD hS hA [7, 8, 1, 2, 3, 4, 5, 6] (by decide +kernel) rfl
            refine va_callv (va_runV (As := [.ref no]) (rest := []) ⟨hx, hb, hml, hown, hts⟩ (r_X0_keep l dC dI cI cZ cL cJ s.heap.size ac be q az fb ad bd V G no nv0 nv1 nv2 nv3 nv5 nhh nww nkk nb1 nb2 nb3 nb4 nb5 ng1 ng2 ng3 ng4 ng5 (hfb) (hok) (by omega) (by omega) (by omega) (by omega) (by omega)) (cwV 1 hts gX7_loose_X0_keep rfl rfl rfl (by decide +kernel) ⟨Nat.le_of_ble_eq_true rfl, Nat.le_of_ble_eq_true rfl⟩) (pvW 0 7 hK hP rfl rfl hc_12) rfl rfl hl.1 rfl (lv_room (Nat.le_of_ble_eq_true rfl)) dX7_loose_58 ⟨Nat.le_of_ble_eq_true rfl, Nat.le_of_ble_eq_true rfl⟩) hS (fun q _ h => hc_12.2.2 q h) hc_12.2.2 (fun u_12 t_12 H1 locs ht hvm h_12 hB hz1 hk1 hS => ?_)
            refine xl_4_9 hB (fun Vn_12 Gn_12 qn_12 zn_12 hP1 hD1 hF_12_0 hF_12_1 hF_12_2 hF_12_3 hF_12_4 hF_12_5 hF_12_6 => ?_)
            clear hB
            rw [ht] at hP1
            obtain ⟨hP, hD⟩ := va_joinP (wr := [(xo_7_rrrrrrrrrii x ro ta no ac im tr pl cs ak xf xg)]) (rx := [(xo_0_rii ac be (nI qn_12) (nI zn_12)), (xJ be cL 24 fb), (xo_3_iiiiiiiirrrrr no nv0 nv1 nv2 nv3 (nI nhh) nv5 (nI nww) (nI nkk) nb1 nb2 nb3 nb4 nb5), (xI nb1 cI 6 ng1), (xI nb2 cI 6 ng2), (xI nb3 cI 6 ng3), (xI nb4 cI 6 ng4), (xI nb5 cI 6 ng5)]) (pl1 := lvs cI 24 ad bd Vn_12 Gn_12) hP hD [7, 8, 1, 2, 3, 4, 5, 6] [0] rfl rfl (by decide +kernel) (by decide +kernel) hk1 hc_12.2.2 hP1 hD1
            generalize H1 = H at hP hS ⊢
            have hP : va_P (dC, dI) vwCl (([(xo_7_rrrrrrrrrii x ro ta no ac im tr pl cs ak xf xg), (xo_0_rii ac be (nI qn_12) (nI zn_12)), (xJ be cL 24 fb), (xo_3_iiiiiiiirrrrr no nv0 nv1 nv2 nv3 (nI nhh) nv5 (nI nww) (nI nkk) nb1 nb2 nb3 nb4 nb5), (xI nb1 cI 6 ng1), (xI nb2 cI 6 ng2), (xI nb3 cI 6 ng3), (xI nb4 cI 6 ng4), (xI nb5 cI 6 ng5)] : va_W) ++ lvs cI 24 ad bd Vn_12 Gn_12) H := hP
            have hD := dto hP hD
            refine lv_aload_n hx hb dX7_loose_61 rfl (lv_at hl 0 rfl) ?_
            refine va_get (D := (dC, dI)) (ci := 7) (v := .ref no) (C := RX7) (T := TX7) (N := 11) hx hb hts i_X7_loose_X7 hown hK hP 0 rfl rfl 2 (by decide) (hts _ mx_X7_loose_1) (fun _ h9 => h9) rfl dX7_loose_62 ?_
            refine lv_iload_n hx hb dX7_loose_65 rfl (lv_at hl 1 rfl) ?_
            refine lv_iload_n hx hb dX7_loose_66 rfl (lv_at hl 2 rfl) ?_
            refine lv_iload_n hx hb dX7_loose_67 rfl (lv_at hl 3 rfl) ?_
            have hc_13 := cutX (wc := [(xo_3_iiiiiiiirrrrr no nv0 nv1 nv2 nv3 (nI nhh) nv5 (nI nww) (nI nkk) nb1 nb2 nb3 nb4 nb5), (xI nb1 cI 6 ng1), (xI nb2 cI 6 ng2), (xI nb3 cI 6 ng3), (xI nb4 cI 6 ng4), (xI nb5 cI 6 ng5)]) hP hD hS hA [3, 4, 5, 6, 7, 8] (by decide +kernel) rfl
            refine va_callv (va_runV (As := [.int (nI j_1), .int k1, .int k2]) (rest := []) ⟨hx, hb, hml, hown, hts⟩ (r_X3_letLoose l dC dI cI cZ cL cJ H.size no nv0 nv1 nv2 nv3 nv5 nhh nww nkk nb1 nb2 nb3 nb4 nb5 ng1 ng2 ng3 ng4 ng5 j_1 k1 k2 (by omega) (by omega) (by omega) (by omega)) (cwV 3 hts gX7_loose_X3_letLoose rfl rfl rfl (by decide +kernel) ⟨Nat.le_of_ble_eq_true rfl, Nat.le_of_ble_eq_true rfl⟩) (pvW 3 3 hK hP rfl rfl hc_13) rfl rfl hl.1 rfl (lv_room (Nat.le_of_ble_eq_true rfl)) dX7_loose_68 ⟨Nat.le_of_ble_eq_true rfl, Nat.le_of_ble_eq_true rfl⟩) hS (fun q _ h => hc_13.2.2 q h) hc_13.2.2 (fun u_13 t_13 H1 locs ht hvm h_13 hB hz1 hk1 hS => ?_)
            refine xl_3_5 hB (fun g3n_13 g4n_13 g5n_13 hP1 hD1 hF_13_0 hF_13_1 hF_13_2 => ?_)
            clear hB
            rw [ht] at hP1
            obtain ⟨hP, hD⟩ := va_joinQ (wr := [(xo_7_rrrrrrrrrii x ro ta no ac im tr pl cs ak xf xg), (xo_0_rii ac be (nI qn_12) (nI zn_12)), (xJ be cL 24 fb)]) (w1 := [(xo_3_iiiiiiiirrrrr no nv0 nv1 nv2 nv3 (nI nhh) nv5 (nI nww) (nI nkk) nb1 nb2 nb3 nb4 nb5), (xI nb1 cI 6 ng1), (xI nb2 cI 6 ng2), (xI nb3 cI 6 g3n_13), (xI nb4 cI 6 g4n_13), (xI nb5 cI 6 g5n_13)]) hP hD [3, 4, 5, 6, 7, 8] [0, 1, 2] rfl rfl (by decide +kernel) (by decide +kernel) hk1 hc_13.2.2 hP1 hD1
            generalize H1 = H at hP hS ⊢
            have hP : va_P (dC, dI) vwCl (([(xo_7_rrrrrrrrrii x ro ta no ac im tr pl cs ak xf xg), (xo_0_rii ac be (nI qn_12) (nI zn_12)), (xJ be cL 24 fb), (xo_3_iiiiiiiirrrrr no nv0 nv1 nv2 nv3 (nI nhh) nv5 (nI nww) (nI nkk) nb1 nb2 nb3 nb4 nb5), (xI nb1 cI 6 ng1), (xI nb2 cI 6 ng2), (xI nb3 cI 6 g3n_13), (xI nb4 cI 6 g4n_13), (xI nb5 cI 6 g5n_13)] : va_W) ++ lvs cI 24 ad bd Vn_12 Gn_12) H := hP
            have hD := dto hP hD
            refine lv_aload_n hx hb dX7_loose_71 rfl (lv_at hl 0 rfl) ?_
            refine va_get (D := (dC, dI)) (ci := 7) (v := .ref no) (C := RX7) (T := TX7) (N := 11) hx hb hts i_X7_loose_X7 hown hK hP 0 rfl rfl 2 (by decide) (hts _ mx_X7_loose_1) (fun _ h9 => h9) rfl dX7_loose_72 ?_
            refine lv_iconst (v := 0) hx hb dX7_loose_75 (by decide) ?_
            have hPc_14 := hP.sub (ws' := [(xo_3_iiiiiiiirrrrr no nv0 nv1 nv2 nv3 (nI nhh) nv5 (nI nww) (nI nkk) nb1 nb2 nb3 nb4 nb5), (xI nb1 cI 6 ng1), (xI nb2 cI 6 ng2), (xI nb3 cI 6 g3n_13), (xI nb4 cI 6 g4n_13), (xI nb5 cI 6 g5n_13)]) [3, 4, 5, 6, 7, 8] rfl
            refine vp_callSi (W.runV (As := [.int 0]) (rest := []) ⟨hx, hb, hml, hown, hts⟩ (r_X3_soundsThatAre l dC dI cI cZ cL cJ no nv0 nv1 nv2 nv3 nv5 nhh nww nkk nb1 nb2 nb3 nb4 nb5 ng1 ng2 g3n_13 g4n_13 g5n_13 0 (by omega) (by omega) (by omega)) (cwV 1 hts gX7_loose_X3_soundsThatAre rfl rfl rfl (by decide +kernel) ⟨Nat.le_of_ble_eq_true rfl, Nat.le_of_ble_eq_true rfl⟩) (pvP 3 3 hK hP rfl rfl hPc_14) rfl rfl hl.1 rfl (lv_room (Nat.le_of_ble_eq_true rfl)) dX7_loose_76 ⟨Nat.le_of_ble_eq_true rfl, Nat.le_of_ble_eq_true rfl⟩) (fun r_14 h_14 => ?_)
            have hX9 := cut2P (cx := [(xo_7_rrrrrrrrrii x ro ta no ac im tr pl cs ak xf xg), (xo_3_iiiiiiiirrrrr no nv0 nv1 nv2 nv3 (nI nhh) nv5 (nI nww) (nI nkk) nb1 nb2 nb3 nb4 nb5), (xI nb1 cI 6 ng1), (xI nb2 cI 6 ng2), (xI nb3 cI 6 g3n_13), (xI nb4 cI 6 g4n_13), (xI nb5 cI 6 g5n_13), (xo_0_rii ac be (nI qn_12) (nI zn_12)), (xJ be cL 24 fb)]) hP hD [0, 3, 4, 5, 6, 7, 8, 1, 2] (by decide +kernel) rfl
            exact W.iret (v := r_14) hx hb hr (fun t ht hW => ⟨⟨r_14, (), rfl, (lf_X7_loose_16 nhb nwb nkb hLv hfb hok hq haz hj_1 f_5_1_0 f_5_1_1 c_8 c_9 f_10_0_0 hF_12_0 hF_12_1 hF_12_2 hF_12_3 hF_12_4 hF_12_5 hF_12_6 hF_13_0 hF_13_1 hF_13_2 h_14), ⟨Vn_12, Gn_12, nv0, nv1, nv2, nv3, nv5, ng1, ng2, g3n_13, g4n_13, g5n_13, nhh, nww, nkk, qn_12, zn_12, va_Ht ht hX9.1, hX9.2, hF_12_0, (by omega), (by omega), (by omega), (by omega), (by omega), (lf_X7_loose_13 nhb nwb nkb hLv hfb hok hq haz hj_1 f_5_1_0 f_5_1_1 c_8 c_9 f_10_0_0 hF_12_0 hF_12_1 hF_12_2 hF_12_3 hF_12_4 hF_12_5 hF_12_6 hF_13_0 hF_13_1 hF_13_2 h_14), (lf_X7_loose_14 nhb nwb nkb hLv hfb hok hq haz hj_1 f_5_1_0 f_5_1_1 c_8 c_9 f_10_0_0 hF_12_0 hF_12_1 hF_12_2 hF_12_3 hF_12_4 hF_12_5 hF_12_6 hF_13_0 hF_13_1 hF_13_2 h_14), (lf_X7_loose_15 nhb nwb nkb hLv hfb hok hq haz hj_1 f_5_1_0 f_5_1_1 c_8 c_9 f_10_0_0 hF_12_0 hF_12_1 hF_12_2 hF_12_3 hF_12_4 hF_12_5 hF_12_6 hF_13_0 hF_13_1 hF_13_2 h_14)⟩⟩, hS.F ht⟩) hS.2.2 dX7_loose_79
          · subst h_10
            refine lv_if_eq (tgt := 50) hx hb dX7_loose_44 (by decide) (fun c_ => absurd c_ (by decide)) (fun _ => ?_)
            refine lv_ldc (own := RX7) (v := (-1000002)) hx hb hown (hts _ mx_X7_loose_3) dX7_loose_47 ?_
            have hX9 := cut2P (cx := [(xo_7_rrrrrrrrrii x ro ta no ac im tr pl cs ak xf xg), (xo_3_iiiiiiiirrrrr no nv0 nv1 nv2 nv3 (nI nhh) nv5 (nI nww) (nI nkk) nb1 nb2 nb3 nb4 nb5), (xI nb1 cI 6 ng1), (xI nb2 cI 6 ng2), (xI nb3 cI 6 ng3), (xI nb4 cI 6 ng4), (xI nb5 cI 6 ng5), (xo_0_rii ac be (nI q) (nI az)), (xJ be cL 24 fb)]) hP hD [0, 1, 2, 3, 4, 5, 6, 7, 8] (by decide +kernel) rfl
            exact W.iret (v := (-1000002)) hx hb hr (fun t ht hW => ⟨⟨(-1000002), (), rfl, (lf_X7_loose_20 nhb nwb nkb hLv hfb hok hq haz hj_1 f_5_1_0 f_5_1_1 c_8 c_9 f_10_1_0), ⟨V, G, nv0, nv1, nv2, nv3, nv5, ng1, ng2, ng3, ng4, ng5, nhh, nww, nkk, q, az, va_Ht ht hX9.1, hX9.2, hok, (by omega), (by omega), (by omega), (by omega), (by omega), (lf_X7_loose_17 nhb nwb nkb hLv hfb hok hq haz hj_1 f_5_1_0 f_5_1_1 c_8 c_9 f_10_1_0), (lf_X7_loose_18 nhb nwb nkb hLv hfb hok hq haz hj_1 f_5_1_0 f_5_1_1 c_8 c_9 f_10_1_0), (lf_X7_loose_19 nhb nwb nkb hLv hfb hok hq haz hj_1 f_5_1_0 f_5_1_1 c_8 c_9 f_10_1_0)⟩⟩, hS.F ht⟩) hS.2.2 dX7_loose_49
        · skip
          refine lv_ldc (own := RX7) (v := (-1000001)) hx hb hown (hts _ mx_X7_loose_2) dX7_loose_33 ?_
          have hX9 := cut2P (cx := [(xo_7_rrrrrrrrrii x ro ta no ac im tr pl cs ak xf xg), (xo_3_iiiiiiiirrrrr no nv0 nv1 nv2 nv3 (nI nhh) nv5 (nI nww) (nI nkk) nb1 nb2 nb3 nb4 nb5), (xI nb1 cI 6 ng1), (xI nb2 cI 6 ng2), (xI nb3 cI 6 ng3), (xI nb4 cI 6 ng4), (xI nb5 cI 6 ng5), (xo_0_rii ac be (nI q) (nI az)), (xJ be cL 24 fb)]) hP hD [0, 1, 2, 3, 4, 5, 6, 7, 8] (by decide +kernel) rfl
          exact W.iret (v := (-1000001)) hx hb hr (fun t ht hW => ⟨⟨(-1000001), (), rfl, (lf_X7_loose_24 nhb nwb nkb hLv hfb hok hq haz hj_1 f_5_1_0 f_5_1_1 c_8 c_9), ⟨V, G, nv0, nv1, nv2, nv3, nv5, ng1, ng2, ng3, ng4, ng5, nhh, nww, nkk, q, az, va_Ht ht hX9.1, hX9.2, hok, (by omega), (by omega), (by omega), (by omega), (by omega), (lf_X7_loose_21 nhb nwb nkb hLv hfb hok hq haz hj_1 f_5_1_0 f_5_1_1 c_8 c_9), (lf_X7_loose_22 nhb nwb nkb hLv hfb hok hq haz hj_1 f_5_1_0 f_5_1_1 c_8 c_9), (lf_X7_loose_23 nhb nwb nkb hLv hfb hok hq haz hj_1 f_5_1_0 f_5_1_1 c_8 c_9)⟩⟩, hS.F ht⟩) hS.2.2 dX7_loose_35
set_option maxHeartbeats 60000 in
theorem lf_X7_sell_1 {nv0 : Int32} {nv1 : Int32} {nv2 : Int32} {nv3 : Int32} {nv5 : Int32} {nhh : Nat} {nww : Nat} {nkk : Nat} {ng1 : Nat → Int32} {ng2 : Nat → Int32} {ng3 : Nat → Int32} {ng4 : Nat → Int32} {ng5 : Nat → Int32} {q : Nat} {az : Nat} {fb : Nat → Option Nat} {ad : Nat → Nat} {V : Nat → Nat → Int32} {k0 : Int32} (nhb : nhh ≤ 999) (nwb : nww ≤ 6) (nkb : nkk ≤ 6) (hLv : okLv (nrm nv0 nv1 nv2 nv3 nhh nv5 nww nkk ng1 ng2 ng3 ng4 ng5)) (hfb : ∀ i : Nat, i < 24 → fb i = some (ad i)) (hok : ∀ i : Nat, i < 24 → okL (V i)) (hq : q < 24) (haz : az ≤ 24) (f_1_0_0 : ¬ 0 < nv0) : (nrm nv0 nv1 nv2 nv3 nhh nv5 nww nkk ng1 ng2 ng3 ng4 ng5) = n_sell (nrm nv0 nv1 nv2 nv3 nhh nv5 nww nkk ng1 ng2 ng3 ng4 ng5) k0 := by
  first
  | with_reducible exact se_l (se_g0 (hz_0 hLv nhb nwb nkb f_1_0_0))
  | with_reducible exact kz_n (se_g0 (hz_0 hLv nhb nwb nkb f_1_0_0))
  | with_reducible exact kc_n (se_g0 (hz_0 hLv nhb nwb nkb f_1_0_0))
  | with_reducible exact se_a0 (hz_0 hLv nhb nwb nkb f_1_0_0)
  | omega
set_option maxHeartbeats 60000 in
theorem lf_X7_sell_2 {nv0 : Int32} {nv1 : Int32} {nv2 : Int32} {nv3 : Int32} {nv5 : Int32} {nhh : Nat} {nww : Nat} {nkk : Nat} {ng1 : Nat → Int32} {ng2 : Nat → Int32} {ng3 : Nat → Int32} {ng4 : Nat → Int32} {ng5 : Nat → Int32} {q : Nat} {az : Nat} {fb : Nat → Option Nat} {ad : Nat → Nat} {V : Nat → Nat → Int32} {k0 : Int32} (nhb : nhh ≤ 999) (nwb : nww ≤ 6) (nkb : nkk ≤ 6) (hLv : okLv (nrm nv0 nv1 nv2 nv3 nhh nv5 nww nkk ng1 ng2 ng3 ng4 ng5)) (hfb : ∀ i : Nat, i < 24 → fb i = some (ad i)) (hok : ∀ i : Nat, i < 24 → okL (V i)) (hq : q < 24) (haz : az ≤ 24) (f_1_0_0 : ¬ 0 < nv0) : az = kpN (gd_sell (nrm nv0 nv1 nv2 nv3 nhh nv5 nww nkk ng1 ng2 ng3 ng4 ng5) k0) az := by
  first
  | with_reducible exact se_l (se_g0 (hz_0 hLv nhb nwb nkb f_1_0_0))
  | with_reducible exact kz_n (se_g0 (hz_0 hLv nhb nwb nkb f_1_0_0))
  | with_reducible exact kc_n (se_g0 (hz_0 hLv nhb nwb nkb f_1_0_0))
  | with_reducible exact se_a0 (hz_0 hLv nhb nwb nkb f_1_0_0)
  | omega
set_option maxHeartbeats 60000 in
theorem lf_X7_sell_3 {nv0 : Int32} {nv1 : Int32} {nv2 : Int32} {nv3 : Int32} {nv5 : Int32} {nhh : Nat} {nww : Nat} {nkk : Nat} {ng1 : Nat → Int32} {ng2 : Nat → Int32} {ng3 : Nat → Int32} {ng4 : Nat → Int32} {ng5 : Nat → Int32} {q : Nat} {az : Nat} {fb : Nat → Option Nat} {ad : Nat → Nat} {V : Nat → Nat → Int32} {G : Nat → Nat → Nat → Int32} {k0 : Int32} (nhb : nhh ≤ 999) (nwb : nww ≤ 6) (nkb : nkk ≤ 6) (hLv : okLv (nrm nv0 nv1 nv2 nv3 nhh nv5 nww nkk ng1 ng2 ng3 ng4 ng5)) (hfb : ∀ i : Nat, i < 24 → fb i = some (ad i)) (hok : ∀ i : Nat, i < 24 → okL (V i)) (hq : q < 24) (haz : az ≤ 24) (f_1_0_0 : ¬ 0 < nv0) : acX q az V G = kpA (gd_sell (nrm nv0 nv1 nv2 nv3 nhh nv5 nww nkk ng1 ng2 ng3 ng4 ng5) k0) (nrm nv0 nv1 nv2 nv3 nhh nv5 nww nkk ng1 ng2 ng3 ng4 ng5) az (acX q az V G) := by
  first
  | with_reducible exact se_l (se_g0 (hz_0 hLv nhb nwb nkb f_1_0_0))
  | with_reducible exact kz_n (se_g0 (hz_0 hLv nhb nwb nkb f_1_0_0))
  | with_reducible exact kc_n (se_g0 (hz_0 hLv nhb nwb nkb f_1_0_0))
  | with_reducible exact se_a0 (hz_0 hLv nhb nwb nkb f_1_0_0)
  | omega
set_option maxHeartbeats 60000 in
theorem lf_X7_sell_4 {nv0 : Int32} {nv1 : Int32} {nv2 : Int32} {nv3 : Int32} {nv5 : Int32} {nhh : Nat} {nww : Nat} {nkk : Nat} {ng1 : Nat → Int32} {ng2 : Nat → Int32} {ng3 : Nat → Int32} {ng4 : Nat → Int32} {ng5 : Nat → Int32} {q : Nat} {az : Nat} {fb : Nat → Option Nat} {ad : Nat → Nat} {V : Nat → Nat → Int32} {k0 : Int32} (nhb : nhh ≤ 999) (nwb : nww ≤ 6) (nkb : nkk ≤ 6) (hLv : okLv (nrm nv0 nv1 nv2 nv3 nhh nv5 nww nkk ng1 ng2 ng3 ng4 ng5)) (hfb : ∀ i : Nat, i < 24 → fb i = some (ad i)) (hok : ∀ i : Nat, i < 24 → okL (V i)) (hq : q < 24) (haz : az ≤ 24) (f_1_0_0 : ¬ 0 < nv0) : (-1000002) = (a_sell (nrm nv0 nv1 nv2 nv3 nhh nv5 nww nkk ng1 ng2 ng3 ng4 ng5) k0) := by
  first
  | with_reducible exact se_l (se_g0 (hz_0 hLv nhb nwb nkb f_1_0_0))
  | with_reducible exact kz_n (se_g0 (hz_0 hLv nhb nwb nkb f_1_0_0))
  | with_reducible exact kc_n (se_g0 (hz_0 hLv nhb nwb nkb f_1_0_0))
  | with_reducible exact se_a0 (hz_0 hLv nhb nwb nkb f_1_0_0)
  | omega
set_option maxHeartbeats 60000 in
theorem lf_X7_sell_5 {nv0 : Int32} {nv1 : Int32} {nv2 : Int32} {nv3 : Int32} {nv5 : Int32} {nhh : Nat} {nww : Nat} {nkk : Nat} {ng1 : Nat → Int32} {ng2 : Nat → Int32} {ng3 : Nat → Int32} {ng4 : Nat → Int32} {ng5 : Nat → Int32} {q : Nat} {az : Nat} {fb : Nat → Option Nat} {ad : Nat → Nat} {V : Nat → Nat → Int32} {k0 : Int32} (nhb : nhh ≤ 999) (nwb : nww ≤ 6) (nkb : nkk ≤ 6) (hLv : okLv (nrm nv0 nv1 nv2 nv3 nhh nv5 nww nkk ng1 ng2 ng3 ng4 ng5)) (hfb : ∀ i : Nat, i < 24 → fb i = some (ad i)) (hok : ∀ i : Nat, i < 24 → okL (V i)) (hq : q < 24) (haz : az ≤ 24) (f_1_1_0 : 0 < nv0) (c_4 : k0 < 1) : (nrm nv0 nv1 nv2 nv3 nhh nv5 nww nkk ng1 ng2 ng3 ng4 ng5) = n_sell (nrm nv0 nv1 nv2 nv3 nhh nv5 nww nkk ng1 ng2 ng3 ng4 ng5) k0 := by
  first
  | with_reducible exact se_l (se_g1 c_4)
  | with_reducible exact kz_n (se_g1 c_4)
  | with_reducible exact kc_n (se_g1 c_4)
  | with_reducible exact se_a1 (hz_1 hLv nhb nwb nkb f_1_1_0) (Or.inl c_4)
  | omega
set_option maxHeartbeats 60000 in
theorem lf_X7_sell_6 {nv0 : Int32} {nv1 : Int32} {nv2 : Int32} {nv3 : Int32} {nv5 : Int32} {nhh : Nat} {nww : Nat} {nkk : Nat} {ng1 : Nat → Int32} {ng2 : Nat → Int32} {ng3 : Nat → Int32} {ng4 : Nat → Int32} {ng5 : Nat → Int32} {q : Nat} {az : Nat} {fb : Nat → Option Nat} {ad : Nat → Nat} {V : Nat → Nat → Int32} {k0 : Int32} (nhb : nhh ≤ 999) (nwb : nww ≤ 6) (nkb : nkk ≤ 6) (hLv : okLv (nrm nv0 nv1 nv2 nv3 nhh nv5 nww nkk ng1 ng2 ng3 ng4 ng5)) (hfb : ∀ i : Nat, i < 24 → fb i = some (ad i)) (hok : ∀ i : Nat, i < 24 → okL (V i)) (hq : q < 24) (haz : az ≤ 24) (f_1_1_0 : 0 < nv0) (c_4 : k0 < 1) : az = kpN (gd_sell (nrm nv0 nv1 nv2 nv3 nhh nv5 nww nkk ng1 ng2 ng3 ng4 ng5) k0) az := by
  first
  | with_reducible exact se_l (se_g1 c_4)
  | with_reducible exact kz_n (se_g1 c_4)
  | with_reducible exact kc_n (se_g1 c_4)
  | with_reducible exact se_a1 (hz_1 hLv nhb nwb nkb f_1_1_0) (Or.inl c_4)
  | omega
set_option maxHeartbeats 60000 in
theorem lf_X7_sell_7 {nv0 : Int32} {nv1 : Int32} {nv2 : Int32} {nv3 : Int32} {nv5 : Int32} {nhh : Nat} {nww : Nat} {nkk : Nat} {ng1 : Nat → Int32} {ng2 : Nat → Int32} {ng3 : Nat → Int32} {ng4 : Nat → Int32} {ng5 : Nat → Int32} {q : Nat} {az : Nat} {fb : Nat → Option Nat} {ad : Nat → Nat} {V : Nat → Nat → Int32} {G : Nat → Nat → Nat → Int32} {k0 : Int32} (nhb : nhh ≤ 999) (nwb : nww ≤ 6) (nkb : nkk ≤ 6) (hLv : okLv (nrm nv0 nv1 nv2 nv3 nhh nv5 nww nkk ng1 ng2 ng3 ng4 ng5)) (hfb : ∀ i : Nat, i < 24 → fb i = some (ad i)) (hok : ∀ i : Nat, i < 24 → okL (V i)) (hq : q < 24) (haz : az ≤ 24) (f_1_1_0 : 0 < nv0) (c_4 : k0 < 1) : acX q az V G = kpA (gd_sell (nrm nv0 nv1 nv2 nv3 nhh nv5 nww nkk ng1 ng2 ng3 ng4 ng5) k0) (nrm nv0 nv1 nv2 nv3 nhh nv5 nww nkk ng1 ng2 ng3 ng4 ng5) az (acX q az V G) := by
  first
  | with_reducible exact se_l (se_g1 c_4)
  | with_reducible exact kz_n (se_g1 c_4)
  | with_reducible exact kc_n (se_g1 c_4)
  | with_reducible exact se_a1 (hz_1 hLv nhb nwb nkb f_1_1_0) (Or.inl c_4)
  | omega
set_option maxHeartbeats 60000 in
theorem lf_X7_sell_8 {nv0 : Int32} {nv1 : Int32} {nv2 : Int32} {nv3 : Int32} {nv5 : Int32} {nhh : Nat} {nww : Nat} {nkk : Nat} {ng1 : Nat → Int32} {ng2 : Nat → Int32} {ng3 : Nat → Int32} {ng4 : Nat → Int32} {ng5 : Nat → Int32} {q : Nat} {az : Nat} {fb : Nat → Option Nat} {ad : Nat → Nat} {V : Nat → Nat → Int32} {k0 : Int32} (nhb : nhh ≤ 999) (nwb : nww ≤ 6) (nkb : nkk ≤ 6) (hLv : okLv (nrm nv0 nv1 nv2 nv3 nhh nv5 nww nkk ng1 ng2 ng3 ng4 ng5)) (hfb : ∀ i : Nat, i < 24 → fb i = some (ad i)) (hok : ∀ i : Nat, i < 24 → okL (V i)) (hq : q < 24) (haz : az ≤ 24) (f_1_1_0 : 0 < nv0) (c_4 : k0 < 1) : (-1000001) = (a_sell (nrm nv0 nv1 nv2 nv3 nhh nv5 nww nkk ng1 ng2 ng3 ng4 ng5) k0) := by
  first
  | with_reducible exact se_l (se_g1 c_4)
  | with_reducible exact kz_n (se_g1 c_4)
  | with_reducible exact kc_n (se_g1 c_4)
  | with_reducible exact se_a1 (hz_1 hLv nhb nwb nkb f_1_1_0) (Or.inl c_4)
  | omega
set_option maxHeartbeats 60000 in
theorem lf_X7_sell_9 {nv0 : Int32} {nv1 : Int32} {nv2 : Int32} {nv3 : Int32} {nv5 : Int32} {nhh : Nat} {nww : Nat} {nkk : Nat} {ng1 : Nat → Int32} {ng2 : Nat → Int32} {ng3 : Nat → Int32} {ng4 : Nat → Int32} {ng5 : Nat → Int32} {q : Nat} {az : Nat} {fb : Nat → Option Nat} {ad : Nat → Nat} {V : Nat → Nat → Int32} {G : Nat → Nat → Nat → Int32} {k0 : Int32} {Vn_7 : Nat → Nat → Int32} {Gn_7 : Nat → Nat → Nat → Int32} {qn_7 : Nat} {zn_7 : Nat} {v_8 : Int32} (nhb : nhh ≤ 999) (nwb : nww ≤ 6) (nkb : nkk ≤ 6) (hLv : okLv (nrm nv0 nv1 nv2 nv3 nhh nv5 nww nkk ng1 ng2 ng3 ng4 ng5)) (hfb : ∀ i : Nat, i < 24 → fb i = some (ad i)) (hok : ∀ i : Nat, i < 24 → okL (V i)) (hq : q < 24) (haz : az ≤ 24) (f_1_1_0 : 0 < nv0) (c_4 : ¬ (k0 < 1)) (c_5 : k0 ≤ 999) (c_6 : k0 ≤ nv5) (hF_7_0 : (∀ i : Nat, i < 24 → okL (Vn_7 i))) (hF_7_1 : qn_7 < 24) (hF_7_2 : zn_7 ≤ 24) (hF_7_3 : nrV (Vn_7 q) (Gn_7 q) = (nrm nv0 nv1 nv2 nv3 nhh nv5 nww nkk ng1 ng2 ng3 ng4 ng5)) (hF_7_4 : (∀ i : Nat, i < 24 → i ≠ q → nrV (Vn_7 i) (Gn_7 i) = nrV (V i) (G i))) (hF_7_5 : qn_7 = (q + 1) % 24) (hF_7_6 : zn_7 = ntN az) (e_8 : v_8 = (nv5 - k0)) : (nrm nv0 nv1 nv2 nv3 nhh v_8 nww nkk ng1 ng2 ng3 ng4 ng5) = n_sell (nrm nv0 nv1 nv2 nv3 nhh nv5 nww nkk ng1 ng2 ng3 ng4 ng5) k0 := by
  first
  | with_reducible exact se_l (se_g1 c_4)
  | with_reducible exact kz_n (se_g1 c_4)
  | with_reducible exact kc_n (se_g1 c_4)
  | with_reducible exact se_a1 (hz_1 hLv nhb nwb nkb f_1_1_0) (Or.inl c_4)
  | with_reducible exact se_l (se_g2 c_5)
  | with_reducible exact kz_n (se_g2 c_5)
  | with_reducible exact kc_n (se_g2 c_5)
  | with_reducible exact se_a1 (hz_1 hLv nhb nwb nkb f_1_1_0) (Or.inr (i_nle.mp c_5))
  | with_reducible exact se_l (se_g3 c_6)
  | with_reducible exact kz_n (se_g3 c_6)
  | with_reducible exact kc_n (se_g3 c_6)
  | with_reducible exact se_a3 (hz_1 hLv nhb nwb nkb f_1_1_0) c_4 c_5 c_6
  | with_reducible exact se_L (se_p (hz_1 hLv nhb nwb nkb f_1_1_0) c_4 c_5 c_6) e_8
  | with_reducible exact kz_p (se_p (hz_1 hLv nhb nwb nkb f_1_1_0) c_4 c_5 c_6) hF_7_6
  | with_reducible exact kc_p (se_p (hz_1 hLv nhb nwb nkb f_1_1_0) c_4 c_5 c_6) hq haz hF_7_3 hF_7_4 hF_7_5 hF_7_6
  | with_reducible exact se_A (se_p (hz_1 hLv nhb nwb nkb f_1_1_0) c_4 c_5 c_6) e_8
  | omega
set_option maxHeartbeats 60000 in
theorem lf_X7_sell_10 {nv0 : Int32} {nv1 : Int32} {nv2 : Int32} {nv3 : Int32} {nv5 : Int32} {nhh : Nat} {nww : Nat} {nkk : Nat} {ng1 : Nat → Int32} {ng2 : Nat → Int32} {ng3 : Nat → Int32} {ng4 : Nat → Int32} {ng5 : Nat → Int32} {q : Nat} {az : Nat} {fb : Nat → Option Nat} {ad : Nat → Nat} {V : Nat → Nat → Int32} {G : Nat → Nat → Nat → Int32} {k0 : Int32} {Vn_7 : Nat → Nat → Int32} {Gn_7 : Nat → Nat → Nat → Int32} {qn_7 : Nat} {zn_7 : Nat} {v_8 : Int32} (nhb : nhh ≤ 999) (nwb : nww ≤ 6) (nkb : nkk ≤ 6) (hLv : okLv (nrm nv0 nv1 nv2 nv3 nhh nv5 nww nkk ng1 ng2 ng3 ng4 ng5)) (hfb : ∀ i : Nat, i < 24 → fb i = some (ad i)) (hok : ∀ i : Nat, i < 24 → okL (V i)) (hq : q < 24) (haz : az ≤ 24) (f_1_1_0 : 0 < nv0) (c_4 : ¬ (k0 < 1)) (c_5 : k0 ≤ 999) (c_6 : k0 ≤ nv5) (hF_7_0 : (∀ i : Nat, i < 24 → okL (Vn_7 i))) (hF_7_1 : qn_7 < 24) (hF_7_2 : zn_7 ≤ 24) (hF_7_3 : nrV (Vn_7 q) (Gn_7 q) = (nrm nv0 nv1 nv2 nv3 nhh nv5 nww nkk ng1 ng2 ng3 ng4 ng5)) (hF_7_4 : (∀ i : Nat, i < 24 → i ≠ q → nrV (Vn_7 i) (Gn_7 i) = nrV (V i) (G i))) (hF_7_5 : qn_7 = (q + 1) % 24) (hF_7_6 : zn_7 = ntN az) (e_8 : v_8 = (nv5 - k0)) : zn_7 = kpN (gd_sell (nrm nv0 nv1 nv2 nv3 nhh nv5 nww nkk ng1 ng2 ng3 ng4 ng5) k0) az := by
  first
  | with_reducible exact se_l (se_g1 c_4)
  | with_reducible exact kz_n (se_g1 c_4)
  | with_reducible exact kc_n (se_g1 c_4)
  | with_reducible exact se_a1 (hz_1 hLv nhb nwb nkb f_1_1_0) (Or.inl c_4)
  | with_reducible exact se_l (se_g2 c_5)
  | with_reducible exact kz_n (se_g2 c_5)
  | with_reducible exact kc_n (se_g2 c_5)
  | with_reducible exact se_a1 (hz_1 hLv nhb nwb nkb f_1_1_0) (Or.inr (i_nle.mp c_5))
  | with_reducible exact se_l (se_g3 c_6)
  | with_reducible exact kz_n (se_g3 c_6)
  | with_reducible exact kc_n (se_g3 c_6)
  | with_reducible exact se_a3 (hz_1 hLv nhb nwb nkb f_1_1_0) c_4 c_5 c_6
  | with_reducible exact se_L (se_p (hz_1 hLv nhb nwb nkb f_1_1_0) c_4 c_5 c_6) e_8
  | with_reducible exact kz_p (se_p (hz_1 hLv nhb nwb nkb f_1_1_0) c_4 c_5 c_6) hF_7_6
  | with_reducible exact kc_p (se_p (hz_1 hLv nhb nwb nkb f_1_1_0) c_4 c_5 c_6) hq haz hF_7_3 hF_7_4 hF_7_5 hF_7_6
  | with_reducible exact se_A (se_p (hz_1 hLv nhb nwb nkb f_1_1_0) c_4 c_5 c_6) e_8
  | omega
set_option maxHeartbeats 60000 in
theorem lf_X7_sell_11 {nv0 : Int32} {nv1 : Int32} {nv2 : Int32} {nv3 : Int32} {nv5 : Int32} {nhh : Nat} {nww : Nat} {nkk : Nat} {ng1 : Nat → Int32} {ng2 : Nat → Int32} {ng3 : Nat → Int32} {ng4 : Nat → Int32} {ng5 : Nat → Int32} {q : Nat} {az : Nat} {fb : Nat → Option Nat} {ad : Nat → Nat} {V : Nat → Nat → Int32} {G : Nat → Nat → Nat → Int32} {k0 : Int32} {Vn_7 : Nat → Nat → Int32} {Gn_7 : Nat → Nat → Nat → Int32} {qn_7 : Nat} {zn_7 : Nat} {v_8 : Int32} (nhb : nhh ≤ 999) (nwb : nww ≤ 6) (nkb : nkk ≤ 6) (hLv : okLv (nrm nv0 nv1 nv2 nv3 nhh nv5 nww nkk ng1 ng2 ng3 ng4 ng5)) (hfb : ∀ i : Nat, i < 24 → fb i = some (ad i)) (hok : ∀ i : Nat, i < 24 → okL (V i)) (hq : q < 24) (haz : az ≤ 24) (f_1_1_0 : 0 < nv0) (c_4 : ¬ (k0 < 1)) (c_5 : k0 ≤ 999) (c_6 : k0 ≤ nv5) (hF_7_0 : (∀ i : Nat, i < 24 → okL (Vn_7 i))) (hF_7_1 : qn_7 < 24) (hF_7_2 : zn_7 ≤ 24) (hF_7_3 : nrV (Vn_7 q) (Gn_7 q) = (nrm nv0 nv1 nv2 nv3 nhh nv5 nww nkk ng1 ng2 ng3 ng4 ng5)) (hF_7_4 : (∀ i : Nat, i < 24 → i ≠ q → nrV (Vn_7 i) (Gn_7 i) = nrV (V i) (G i))) (hF_7_5 : qn_7 = (q + 1) % 24) (hF_7_6 : zn_7 = ntN az) (e_8 : v_8 = (nv5 - k0)) : acX qn_7 zn_7 Vn_7 Gn_7 = kpA (gd_sell (nrm nv0 nv1 nv2 nv3 nhh nv5 nww nkk ng1 ng2 ng3 ng4 ng5) k0) (nrm nv0 nv1 nv2 nv3 nhh nv5 nww nkk ng1 ng2 ng3 ng4 ng5) az (acX q az V G) := by
  first
  | with_reducible exact se_l (se_g1 c_4)
  | with_reducible exact kz_n (se_g1 c_4)
  | with_reducible exact kc_n (se_g1 c_4)
  | with_reducible exact se_a1 (hz_1 hLv nhb nwb nkb f_1_1_0) (Or.inl c_4)
  | with_reducible exact se_l (se_g2 c_5)
  | with_reducible exact kz_n (se_g2 c_5)
  | with_reducible exact kc_n (se_g2 c_5)
  | with_reducible exact se_a1 (hz_1 hLv nhb nwb nkb f_1_1_0) (Or.inr (i_nle.mp c_5))
  | with_reducible exact se_l (se_g3 c_6)
  | with_reducible exact kz_n (se_g3 c_6)
  | with_reducible exact kc_n (se_g3 c_6)
  | with_reducible exact se_a3 (hz_1 hLv nhb nwb nkb f_1_1_0) c_4 c_5 c_6
  | with_reducible exact se_L (se_p (hz_1 hLv nhb nwb nkb f_1_1_0) c_4 c_5 c_6) e_8
  | with_reducible exact kz_p (se_p (hz_1 hLv nhb nwb nkb f_1_1_0) c_4 c_5 c_6) hF_7_6
  | with_reducible exact kc_p (se_p (hz_1 hLv nhb nwb nkb f_1_1_0) c_4 c_5 c_6) hq haz hF_7_3 hF_7_4 hF_7_5 hF_7_6
  | with_reducible exact se_A (se_p (hz_1 hLv nhb nwb nkb f_1_1_0) c_4 c_5 c_6) e_8
  | omega
set_option maxHeartbeats 60000 in
theorem lf_X7_sell_12 {nv0 : Int32} {nv1 : Int32} {nv2 : Int32} {nv3 : Int32} {nv5 : Int32} {nhh : Nat} {nww : Nat} {nkk : Nat} {ng1 : Nat → Int32} {ng2 : Nat → Int32} {ng3 : Nat → Int32} {ng4 : Nat → Int32} {ng5 : Nat → Int32} {q : Nat} {az : Nat} {fb : Nat → Option Nat} {ad : Nat → Nat} {V : Nat → Nat → Int32} {G : Nat → Nat → Nat → Int32} {k0 : Int32} {Vn_7 : Nat → Nat → Int32} {Gn_7 : Nat → Nat → Nat → Int32} {qn_7 : Nat} {zn_7 : Nat} {v_8 : Int32} (nhb : nhh ≤ 999) (nwb : nww ≤ 6) (nkb : nkk ≤ 6) (hLv : okLv (nrm nv0 nv1 nv2 nv3 nhh nv5 nww nkk ng1 ng2 ng3 ng4 ng5)) (hfb : ∀ i : Nat, i < 24 → fb i = some (ad i)) (hok : ∀ i : Nat, i < 24 → okL (V i)) (hq : q < 24) (haz : az ≤ 24) (f_1_1_0 : 0 < nv0) (c_4 : ¬ (k0 < 1)) (c_5 : k0 ≤ 999) (c_6 : k0 ≤ nv5) (hF_7_0 : (∀ i : Nat, i < 24 → okL (Vn_7 i))) (hF_7_1 : qn_7 < 24) (hF_7_2 : zn_7 ≤ 24) (hF_7_3 : nrV (Vn_7 q) (Gn_7 q) = (nrm nv0 nv1 nv2 nv3 nhh nv5 nww nkk ng1 ng2 ng3 ng4 ng5)) (hF_7_4 : (∀ i : Nat, i < 24 → i ≠ q → nrV (Vn_7 i) (Gn_7 i) = nrV (V i) (G i))) (hF_7_5 : qn_7 = (q + 1) % 24) (hF_7_6 : zn_7 = ntN az) (e_8 : v_8 = (nv5 - k0)) : v_8 = (a_sell (nrm nv0 nv1 nv2 nv3 nhh nv5 nww nkk ng1 ng2 ng3 ng4 ng5) k0) := by
  first
  | with_reducible exact se_l (se_g1 c_4)
  | with_reducible exact kz_n (se_g1 c_4)
  | with_reducible exact kc_n (se_g1 c_4)
  | with_reducible exact se_a1 (hz_1 hLv nhb nwb nkb f_1_1_0) (Or.inl c_4)
  | with_reducible exact se_l (se_g2 c_5)
  | with_reducible exact kz_n (se_g2 c_5)
  | with_reducible exact kc_n (se_g2 c_5)
  | with_reducible exact se_a1 (hz_1 hLv nhb nwb nkb f_1_1_0) (Or.inr (i_nle.mp c_5))
  | with_reducible exact se_l (se_g3 c_6)
  | with_reducible exact kz_n (se_g3 c_6)
  | with_reducible exact kc_n (se_g3 c_6)
  | with_reducible exact se_a3 (hz_1 hLv nhb nwb nkb f_1_1_0) c_4 c_5 c_6
  | with_reducible exact se_L (se_p (hz_1 hLv nhb nwb nkb f_1_1_0) c_4 c_5 c_6) e_8
  | with_reducible exact kz_p (se_p (hz_1 hLv nhb nwb nkb f_1_1_0) c_4 c_5 c_6) hF_7_6
  | with_reducible exact kc_p (se_p (hz_1 hLv nhb nwb nkb f_1_1_0) c_4 c_5 c_6) hq haz hF_7_3 hF_7_4 hF_7_5 hF_7_6
  | with_reducible exact se_A (se_p (hz_1 hLv nhb nwb nkb f_1_1_0) c_4 c_5 c_6) e_8
  | omega
set_option maxHeartbeats 60000 in
theorem lf_X7_sell_13 {nv0 : Int32} {nv1 : Int32} {nv2 : Int32} {nv3 : Int32} {nv5 : Int32} {nhh : Nat} {nww : Nat} {nkk : Nat} {ng1 : Nat → Int32} {ng2 : Nat → Int32} {ng3 : Nat → Int32} {ng4 : Nat → Int32} {ng5 : Nat → Int32} {q : Nat} {az : Nat} {fb : Nat → Option Nat} {ad : Nat → Nat} {V : Nat → Nat → Int32} {k0 : Int32} (nhb : nhh ≤ 999) (nwb : nww ≤ 6) (nkb : nkk ≤ 6) (hLv : okLv (nrm nv0 nv1 nv2 nv3 nhh nv5 nww nkk ng1 ng2 ng3 ng4 ng5)) (hfb : ∀ i : Nat, i < 24 → fb i = some (ad i)) (hok : ∀ i : Nat, i < 24 → okL (V i)) (hq : q < 24) (haz : az ≤ 24) (f_1_1_0 : 0 < nv0) (c_4 : ¬ (k0 < 1)) (c_5 : k0 ≤ 999) (c_6 : ¬ (k0 ≤ nv5)) : (nrm nv0 nv1 nv2 nv3 nhh nv5 nww nkk ng1 ng2 ng3 ng4 ng5) = n_sell (nrm nv0 nv1 nv2 nv3 nhh nv5 nww nkk ng1 ng2 ng3 ng4 ng5) k0 := by
  first
  | with_reducible exact se_l (se_g1 c_4)
  | with_reducible exact kz_n (se_g1 c_4)
  | with_reducible exact kc_n (se_g1 c_4)
  | with_reducible exact se_a1 (hz_1 hLv nhb nwb nkb f_1_1_0) (Or.inl c_4)
  | with_reducible exact se_l (se_g2 c_5)
  | with_reducible exact kz_n (se_g2 c_5)
  | with_reducible exact kc_n (se_g2 c_5)
  | with_reducible exact se_a1 (hz_1 hLv nhb nwb nkb f_1_1_0) (Or.inr (i_nle.mp c_5))
  | with_reducible exact se_l (se_g3 c_6)
  | with_reducible exact kz_n (se_g3 c_6)
  | with_reducible exact kc_n (se_g3 c_6)
  | with_reducible exact se_a3 (hz_1 hLv nhb nwb nkb f_1_1_0) c_4 c_5 c_6
  | omega
set_option maxHeartbeats 60000 in
theorem lf_X7_sell_14 {nv0 : Int32} {nv1 : Int32} {nv2 : Int32} {nv3 : Int32} {nv5 : Int32} {nhh : Nat} {nww : Nat} {nkk : Nat} {ng1 : Nat → Int32} {ng2 : Nat → Int32} {ng3 : Nat → Int32} {ng4 : Nat → Int32} {ng5 : Nat → Int32} {q : Nat} {az : Nat} {fb : Nat → Option Nat} {ad : Nat → Nat} {V : Nat → Nat → Int32} {k0 : Int32} (nhb : nhh ≤ 999) (nwb : nww ≤ 6) (nkb : nkk ≤ 6) (hLv : okLv (nrm nv0 nv1 nv2 nv3 nhh nv5 nww nkk ng1 ng2 ng3 ng4 ng5)) (hfb : ∀ i : Nat, i < 24 → fb i = some (ad i)) (hok : ∀ i : Nat, i < 24 → okL (V i)) (hq : q < 24) (haz : az ≤ 24) (f_1_1_0 : 0 < nv0) (c_4 : ¬ (k0 < 1)) (c_5 : k0 ≤ 999) (c_6 : ¬ (k0 ≤ nv5)) : az = kpN (gd_sell (nrm nv0 nv1 nv2 nv3 nhh nv5 nww nkk ng1 ng2 ng3 ng4 ng5) k0) az := by
  first
  | with_reducible exact se_l (se_g1 c_4)
  | with_reducible exact kz_n (se_g1 c_4)
  | with_reducible exact kc_n (se_g1 c_4)
  | with_reducible exact se_a1 (hz_1 hLv nhb nwb nkb f_1_1_0) (Or.inl c_4)
  | with_reducible exact se_l (se_g2 c_5)
  | with_reducible exact kz_n (se_g2 c_5)
  | with_reducible exact kc_n (se_g2 c_5)
  | with_reducible exact se_a1 (hz_1 hLv nhb nwb nkb f_1_1_0) (Or.inr (i_nle.mp c_5))
  | with_reducible exact se_l (se_g3 c_6)
  | with_reducible exact kz_n (se_g3 c_6)
  | with_reducible exact kc_n (se_g3 c_6)
  | with_reducible exact se_a3 (hz_1 hLv nhb nwb nkb f_1_1_0) c_4 c_5 c_6
  | omega
set_option maxHeartbeats 60000 in
theorem lf_X7_sell_15 {nv0 : Int32} {nv1 : Int32} {nv2 : Int32} {nv3 : Int32} {nv5 : Int32} {nhh : Nat} {nww : Nat} {nkk : Nat} {ng1 : Nat → Int32} {ng2 : Nat → Int32} {ng3 : Nat → Int32} {ng4 : Nat → Int32} {ng5 : Nat → Int32} {q : Nat} {az : Nat} {fb : Nat → Option Nat} {ad : Nat → Nat} {V : Nat → Nat → Int32} {G : Nat → Nat → Nat → Int32} {k0 : Int32} (nhb : nhh ≤ 999) (nwb : nww ≤ 6) (nkb : nkk ≤ 6) (hLv : okLv (nrm nv0 nv1 nv2 nv3 nhh nv5 nww nkk ng1 ng2 ng3 ng4 ng5)) (hfb : ∀ i : Nat, i < 24 → fb i = some (ad i)) (hok : ∀ i : Nat, i < 24 → okL (V i)) (hq : q < 24) (haz : az ≤ 24) (f_1_1_0 : 0 < nv0) (c_4 : ¬ (k0 < 1)) (c_5 : k0 ≤ 999) (c_6 : ¬ (k0 ≤ nv5)) : acX q az V G = kpA (gd_sell (nrm nv0 nv1 nv2 nv3 nhh nv5 nww nkk ng1 ng2 ng3 ng4 ng5) k0) (nrm nv0 nv1 nv2 nv3 nhh nv5 nww nkk ng1 ng2 ng3 ng4 ng5) az (acX q az V G) := by
  first
  | with_reducible exact se_l (se_g1 c_4)
  | with_reducible exact kz_n (se_g1 c_4)
  | with_reducible exact kc_n (se_g1 c_4)
  | with_reducible exact se_a1 (hz_1 hLv nhb nwb nkb f_1_1_0) (Or.inl c_4)
  | with_reducible exact se_l (se_g2 c_5)
  | with_reducible exact kz_n (se_g2 c_5)
  | with_reducible exact kc_n (se_g2 c_5)
  | with_reducible exact se_a1 (hz_1 hLv nhb nwb nkb f_1_1_0) (Or.inr (i_nle.mp c_5))
  | with_reducible exact se_l (se_g3 c_6)
  | with_reducible exact kz_n (se_g3 c_6)
  | with_reducible exact kc_n (se_g3 c_6)
  | with_reducible exact se_a3 (hz_1 hLv nhb nwb nkb f_1_1_0) c_4 c_5 c_6
  | omega
set_option maxHeartbeats 60000 in
theorem lf_X7_sell_16 {nv0 : Int32} {nv1 : Int32} {nv2 : Int32} {nv3 : Int32} {nv5 : Int32} {nhh : Nat} {nww : Nat} {nkk : Nat} {ng1 : Nat → Int32} {ng2 : Nat → Int32} {ng3 : Nat → Int32} {ng4 : Nat → Int32} {ng5 : Nat → Int32} {q : Nat} {az : Nat} {fb : Nat → Option Nat} {ad : Nat → Nat} {V : Nat → Nat → Int32} {k0 : Int32} (nhb : nhh ≤ 999) (nwb : nww ≤ 6) (nkb : nkk ≤ 6) (hLv : okLv (nrm nv0 nv1 nv2 nv3 nhh nv5 nww nkk ng1 ng2 ng3 ng4 ng5)) (hfb : ∀ i : Nat, i < 24 → fb i = some (ad i)) (hok : ∀ i : Nat, i < 24 → okL (V i)) (hq : q < 24) (haz : az ≤ 24) (f_1_1_0 : 0 < nv0) (c_4 : ¬ (k0 < 1)) (c_5 : k0 ≤ 999) (c_6 : ¬ (k0 ≤ nv5)) : (-1000002) = (a_sell (nrm nv0 nv1 nv2 nv3 nhh nv5 nww nkk ng1 ng2 ng3 ng4 ng5) k0) := by
  first
  | with_reducible exact se_l (se_g1 c_4)
  | with_reducible exact kz_n (se_g1 c_4)
  | with_reducible exact kc_n (se_g1 c_4)
  | with_reducible exact se_a1 (hz_1 hLv nhb nwb nkb f_1_1_0) (Or.inl c_4)
  | with_reducible exact se_l (se_g2 c_5)
  | with_reducible exact kz_n (se_g2 c_5)
  | with_reducible exact kc_n (se_g2 c_5)
  | with_reducible exact se_a1 (hz_1 hLv nhb nwb nkb f_1_1_0) (Or.inr (i_nle.mp c_5))
  | with_reducible exact se_l (se_g3 c_6)
  | with_reducible exact kz_n (se_g3 c_6)
  | with_reducible exact kc_n (se_g3 c_6)
  | with_reducible exact se_a3 (hz_1 hLv nhb nwb nkb f_1_1_0) c_4 c_5 c_6
  | omega
set_option maxHeartbeats 60000 in
theorem lf_X7_sell_17 {nv0 : Int32} {nv1 : Int32} {nv2 : Int32} {nv3 : Int32} {nv5 : Int32} {nhh : Nat} {nww : Nat} {nkk : Nat} {ng1 : Nat → Int32} {ng2 : Nat → Int32} {ng3 : Nat → Int32} {ng4 : Nat → Int32} {ng5 : Nat → Int32} {q : Nat} {az : Nat} {fb : Nat → Option Nat} {ad : Nat → Nat} {V : Nat → Nat → Int32} {k0 : Int32} (nhb : nhh ≤ 999) (nwb : nww ≤ 6) (nkb : nkk ≤ 6) (hLv : okLv (nrm nv0 nv1 nv2 nv3 nhh nv5 nww nkk ng1 ng2 ng3 ng4 ng5)) (hfb : ∀ i : Nat, i < 24 → fb i = some (ad i)) (hok : ∀ i : Nat, i < 24 → okL (V i)) (hq : q < 24) (haz : az ≤ 24) (f_1_1_0 : 0 < nv0) (c_4 : ¬ (k0 < 1)) (c_5 : ¬ (k0 ≤ 999)) : (nrm nv0 nv1 nv2 nv3 nhh nv5 nww nkk ng1 ng2 ng3 ng4 ng5) = n_sell (nrm nv0 nv1 nv2 nv3 nhh nv5 nww nkk ng1 ng2 ng3 ng4 ng5) k0 := by
  first
  | with_reducible exact se_l (se_g1 c_4)
  | with_reducible exact kz_n (se_g1 c_4)
  | with_reducible exact kc_n (se_g1 c_4)
  | with_reducible exact se_a1 (hz_1 hLv nhb nwb nkb f_1_1_0) (Or.inl c_4)
  | with_reducible exact se_l (se_g2 c_5)
  | with_reducible exact kz_n (se_g2 c_5)
  | with_reducible exact kc_n (se_g2 c_5)
  | with_reducible exact se_a1 (hz_1 hLv nhb nwb nkb f_1_1_0) (Or.inr (i_nle.mp c_5))
  | omega
set_option maxHeartbeats 60000 in
theorem lf_X7_sell_18 {nv0 : Int32} {nv1 : Int32} {nv2 : Int32} {nv3 : Int32} {nv5 : Int32} {nhh : Nat} {nww : Nat} {nkk : Nat} {ng1 : Nat → Int32} {ng2 : Nat → Int32} {ng3 : Nat → Int32} {ng4 : Nat → Int32} {ng5 : Nat → Int32} {q : Nat} {az : Nat} {fb : Nat → Option Nat} {ad : Nat → Nat} {V : Nat → Nat → Int32} {k0 : Int32} (nhb : nhh ≤ 999) (nwb : nww ≤ 6) (nkb : nkk ≤ 6) (hLv : okLv (nrm nv0 nv1 nv2 nv3 nhh nv5 nww nkk ng1 ng2 ng3 ng4 ng5)) (hfb : ∀ i : Nat, i < 24 → fb i = some (ad i)) (hok : ∀ i : Nat, i < 24 → okL (V i)) (hq : q < 24) (haz : az ≤ 24) (f_1_1_0 : 0 < nv0) (c_4 : ¬ (k0 < 1)) (c_5 : ¬ (k0 ≤ 999)) : az = kpN (gd_sell (nrm nv0 nv1 nv2 nv3 nhh nv5 nww nkk ng1 ng2 ng3 ng4 ng5) k0) az := by
  first
  | with_reducible exact se_l (se_g1 c_4)
  | with_reducible exact kz_n (se_g1 c_4)
  | with_reducible exact kc_n (se_g1 c_4)
  | with_reducible exact se_a1 (hz_1 hLv nhb nwb nkb f_1_1_0) (Or.inl c_4)
  | with_reducible exact se_l (se_g2 c_5)
  | with_reducible exact kz_n (se_g2 c_5)
  | with_reducible exact kc_n (se_g2 c_5)
  | with_reducible exact se_a1 (hz_1 hLv nhb nwb nkb f_1_1_0) (Or.inr (i_nle.mp c_5))
  | omega
set_option maxHeartbeats 60000 in
theorem lf_X7_sell_19 {nv0 : Int32} {nv1 : Int32} {nv2 : Int32} {nv3 : Int32} {nv5 : Int32} {nhh : Nat} {nww : Nat} {nkk : Nat} {ng1 : Nat → Int32} {ng2 : Nat → Int32} {ng3 : Nat → Int32} {ng4 : Nat → Int32} {ng5 : Nat → Int32} {q : Nat} {az : Nat} {fb : Nat → Option Nat} {ad : Nat → Nat} {V : Nat → Nat → Int32} {G : Nat → Nat → Nat → Int32} {k0 : Int32} (nhb : nhh ≤ 999) (nwb : nww ≤ 6) (nkb : nkk ≤ 6) (hLv : okLv (nrm nv0 nv1 nv2 nv3 nhh nv5 nww nkk ng1 ng2 ng3 ng4 ng5)) (hfb : ∀ i : Nat, i < 24 → fb i = some (ad i)) (hok : ∀ i : Nat, i < 24 → okL (V i)) (hq : q < 24) (haz : az ≤ 24) (f_1_1_0 : 0 < nv0) (c_4 : ¬ (k0 < 1)) (c_5 : ¬ (k0 ≤ 999)) : acX q az V G = kpA (gd_sell (nrm nv0 nv1 nv2 nv3 nhh nv5 nww nkk ng1 ng2 ng3 ng4 ng5) k0) (nrm nv0 nv1 nv2 nv3 nhh nv5 nww nkk ng1 ng2 ng3 ng4 ng5) az (acX q az V G) := by
  first
  | with_reducible exact se_l (se_g1 c_4)
  | with_reducible exact kz_n (se_g1 c_4)
  | with_reducible exact kc_n (se_g1 c_4)
  | with_reducible exact se_a1 (hz_1 hLv nhb nwb nkb f_1_1_0) (Or.inl c_4)
  | with_reducible exact se_l (se_g2 c_5)
  | with_reducible exact kz_n (se_g2 c_5)
  | with_reducible exact kc_n (se_g2 c_5)
  | with_reducible exact se_a1 (hz_1 hLv nhb nwb nkb f_1_1_0) (Or.inr (i_nle.mp c_5))
  | omega
set_option maxHeartbeats 60000 in
theorem lf_X7_sell_20 {nv0 : Int32} {nv1 : Int32} {nv2 : Int32} {nv3 : Int32} {nv5 : Int32} {nhh : Nat} {nww : Nat} {nkk : Nat} {ng1 : Nat → Int32} {ng2 : Nat → Int32} {ng3 : Nat → Int32} {ng4 : Nat → Int32} {ng5 : Nat → Int32} {q : Nat} {az : Nat} {fb : Nat → Option Nat} {ad : Nat → Nat} {V : Nat → Nat → Int32} {k0 : Int32} (nhb : nhh ≤ 999) (nwb : nww ≤ 6) (nkb : nkk ≤ 6) (hLv : okLv (nrm nv0 nv1 nv2 nv3 nhh nv5 nww nkk ng1 ng2 ng3 ng4 ng5)) (hfb : ∀ i : Nat, i < 24 → fb i = some (ad i)) (hok : ∀ i : Nat, i < 24 → okL (V i)) (hq : q < 24) (haz : az ≤ 24) (f_1_1_0 : 0 < nv0) (c_4 : ¬ (k0 < 1)) (c_5 : ¬ (k0 ≤ 999)) : (-1000001) = (a_sell (nrm nv0 nv1 nv2 nv3 nhh nv5 nww nkk ng1 ng2 ng3 ng4 ng5) k0) := by
  first
  | with_reducible exact se_l (se_g1 c_4)
  | with_reducible exact kz_n (se_g1 c_4)
  | with_reducible exact kc_n (se_g1 c_4)
  | with_reducible exact se_a1 (hz_1 hLv nhb nwb nkb f_1_1_0) (Or.inl c_4)
  | with_reducible exact se_l (se_g2 c_5)
  | with_reducible exact kz_n (se_g2 c_5)
  | with_reducible exact kc_n (se_g2 c_5)
  | with_reducible exact se_a1 (hz_1 hLv nhb nwb nkb f_1_1_0) (Or.inr (i_nle.mp c_5))
  | omega
set_option maxHeartbeats 4000000 in
set_option maxRecDepth 100000 in
theorem r_X7_sell (l : Launch) (dC : Nat → ClassId) (dI : Nat → Nat → Nat) (cI cZ cL cJ : ClassId) (sz : Nat) (x : Nat) (ro : Nat) (ta : Nat) (no : Nat) (ac : Nat) (im : Nat) (tr : Nat) (pl : Nat) (cs : Nat) (ak : Nat) (xf : Int32) (xg : Int32) (nv0 : Int32) (nv1 : Int32) (nv2 : Int32) (nv3 : Int32) (nv5 : Int32) (nhh : Nat) (nww : Nat) (nkk : Nat) (nb1 : Nat) (nb2 : Nat) (nb3 : Nat) (nb4 : Nat) (nb5 : Nat) (ng1 : Nat → Int32) (ng2 : Nat → Int32) (ng3 : Nat → Int32) (ng4 : Nat → Int32) (ng5 : Nat → Int32) (be : Nat) (q : Nat) (az : Nat) (fb : Nat → Option Nat) (ad : Nat → Nat) (bd : Nat → Nat → Nat) (V : Nat → Nat → Int32) (G : Nat → Nat → Nat → Int32) (k0 : Int32) (nhb : nhh ≤ 999) (nwb : nww ≤ 6) (nkb : nkk ≤ 6) (hLv : okLv (nrm nv0 nv1 nv2 nv3 nhh nv5 nww nkk ng1 ng2 ng3 ng4 ng5)) (hfb : ∀ i : Nat, i < 24 → fb i = some (ad i)) (hok : ∀ i : Nat, i < 24 → okL (V i)) (hq : q < 24) (haz : az ≤ 24) : Met l yX7_sell wsX7_sell ({ frames := 3, cells := 0, slots := 0, locals := 122 }) (va_Pc [.ref x, .int k0] (fun U => U.heap.size = sz ∧ va_P (dC, dI) vwCl (([(xo_7_rrrrrrrrrii x ro ta no ac im tr pl cs ak xf xg), (xo_3_iiiiiiiirrrrr no nv0 nv1 nv2 nv3 (nI nhh) nv5 (nI nww) (nI nkk) nb1 nb2 nb3 nb4 nb5), (xI nb1 cI 6 ng1), (xI nb2 cI 6 ng2), (xI nb3 cI 6 ng3), (xI nb4 cI 6 ng4), (xI nb5 cI 6 ng5), (xo_0_rii ac be (nI q) (nI az)), (xJ be cL 24 fb)] : va_W) ++ lvs cI 24 ad bd V G) U.heap ∧ va_K (dC, dI) vwCl [(cI, .int), (cZ, .boolean), (cL, .object RX3), (cJ, .array .int)] U ∧ va_D (fun _ => True) (([(xo_7_rrrrrrrrrii x ro ta no ac im tr pl cs ak xf xg), (xo_3_iiiiiiiirrrrr no nv0 nv1 nv2 nv3 (nI nhh) nv5 (nI nww) (nI nkk) nb1 nb2 nb3 nb4 nb5), (xI nb1 cI 6 ng1), (xI nb2 cI 6 ng2), (xI nb3 cI 6 ng3), (xI nb4 cI 6 ng4), (xI nb5 cI 6 ng5), (xo_0_rii ac be (nI q) (nI az)), (xJ be cL 24 fb)] : va_W) ++ lvs cI 24 ad bd V G))) (va_Qi (fun r (_ : Unit) => r = (a_sell (nrm nv0 nv1 nv2 nv3 nhh nv5 nww nkk ng1 ng2 ng3 ng4 ng5) k0)) (fun (_ : Unit) t => ∃ (Vn : Nat → Nat → Int32) (Gn : Nat → Nat → Nat → Int32) (nv0n : Int32) (nv1n : Int32) (nv2n : Int32) (nv3n : Int32) (nv5n : Int32) (ng1n : Nat → Int32) (ng2n : Nat → Int32) (ng3n : Nat → Int32) (ng4n : Nat → Int32) (ng5n : Nat → Int32) (nhn : Nat) (nwn : Nat) (nkn : Nat) (qn : Nat) (azn : Nat), va_P (dC, dI) vwCl (([(xo_7_rrrrrrrrrii x ro ta no ac im tr pl cs ak xf xg), (xo_3_iiiiiiiirrrrr no nv0n nv1n nv2n nv3n (nI nhn) nv5n (nI nwn) (nI nkn) nb1 nb2 nb3 nb4 nb5), (xI nb1 cI 6 ng1n), (xI nb2 cI 6 ng2n), (xI nb3 cI 6 ng3n), (xI nb4 cI 6 ng4n), (xI nb5 cI 6 ng5n), (xo_0_rii ac be (nI qn) (nI azn)), (xJ be cL 24 fb)] : va_W) ++ lvs cI 24 ad bd Vn Gn) t.heap ∧ va_D (va_A (([(xo_7_rrrrrrrrrii x ro ta no ac im tr pl cs ak xf xg), (xo_3_iiiiiiiirrrrr no nv0 nv1 nv2 nv3 (nI nhh) nv5 (nI nww) (nI nkk) nb1 nb2 nb3 nb4 nb5), (xI nb1 cI 6 ng1), (xI nb2 cI 6 ng2), (xI nb3 cI 6 ng3), (xI nb4 cI 6 ng4), (xI nb5 cI 6 ng5), (xo_0_rii ac be (nI q) (nI az)), (xJ be cL 24 fb)] : va_W) ++ lvs cI 24 ad bd V G) sz) (([(xo_7_rrrrrrrrrii x ro ta no ac im tr pl cs ak xf xg), (xo_3_iiiiiiiirrrrr no nv0n nv1n nv2n nv3n (nI nhn) nv5n (nI nwn) (nI nkn) nb1 nb2 nb3 nb4 nb5), (xI nb1 cI 6 ng1n), (xI nb2 cI 6 ng2n), (xI nb3 cI 6 ng3n), (xI nb4 cI 6 ng4n), (xI nb5 cI 6 ng5n), (xo_0_rii ac be (nI qn) (nI azn)), (xJ be cL 24 fb)] : va_W) ++ lvs cI 24 ad bd Vn Gn) ∧ (∀ i : Nat, i < 24 → okL (Vn i)) ∧ qn < 24 ∧ azn ≤ 24 ∧ nhn ≤ 999 ∧ nwn ≤ 6 ∧ nkn ≤ 6 ∧ (nrm nv0n nv1n nv2n nv3n nhn nv5n nwn nkn ng1n ng2n ng3n ng4n ng5n) = n_sell (nrm nv0 nv1 nv2 nv3 nhh nv5 nww nkk ng1 ng2 ng3 ng4 ng5) k0 ∧ azn = kpN (gd_sell (nrm nv0 nv1 nv2 nv3 nhh nv5 nww nkk ng1 ng2 ng3 ng4 ng5) k0) az ∧ acX qn azn Vn Gn = kpA (gd_sell (nrm nv0 nv1 nv2 nv3 nhh nv5 nww nkk ng1 ng2 ng3 ng4 ng5) k0) (nrm nv0 nv1 nv2 nv3 nhh nv5 nww nkk ng1 ng2 ng3 ng4 ng5) az (acX q az V G)) (va_A (([(xo_7_rrrrrrrrrii x ro ta no ac im tr pl cs ak xf xg), (xo_3_iiiiiiiirrrrr no nv0 nv1 nv2 nv3 (nI nhh) nv5 (nI nww) (nI nkk) nb1 nb2 nb3 nb4 nb5), (xI nb1 cI 6 ng1), (xI nb2 cI 6 ng2), (xI nb3 cI 6 ng3), (xI nb4 cI 6 ng4), (xI nb5 cI 6 ng5), (xo_0_rii ac be (nI q) (nI az)), (xJ be cL 24 fb)] : va_W) ++ lvs cI 24 ad bd V G) sz)) 0 0 (va_A (([(xo_7_rrrrrrrrrii x ro ta no ac im tr pl cs ak xf xg), (xo_3_iiiiiiiirrrrr no nv0 nv1 nv2 nv3 (nI nhh) nv5 (nI nww) (nI nkk) nb1 nb2 nb3 nb4 nb5), (xI nb1 cI 6 ng1), (xI nb2 cI 6 ng2), (xI nb3 cI 6 ng3), (xI nb4 cI 6 ng4), (xI nb5 cI 6 ng5), (xo_0_rii ac be (nI q) (nI az)), (xJ be cL 24 fb)] : va_W) ++ lvs cI 24 ad bd V G) sz) := by
  refine Met.ofW (cc := cX7_sell) (maxL := 2) (ret := (some .int)) (by decide) rfl ?_
  intro p e s m args below meth c s₁ B hml hv
  obtain ⟨rfl, hsz, hP, hK, hD0⟩ := hv
  have hx := B.exec
  have hb := B.bytes
  have hr := B.returns
  have hts := atoms_spec (ws := wsX7_sell) B.pre
  have hown : s.vm.findClass RX7 = some m.cls := findClass_of_methodNamed B.named
  have hlocks := B.notSynchronized
  subst hsz
  have hD := hD0.self (sz := s.heap.size)
  generalize hAe : va_A (([(xo_7_rrrrrrrrrii x ro ta no ac im tr pl cs ak xf xg), (xo_3_iiiiiiiirrrrr no nv0 nv1 nv2 nv3 (nI nhh) nv5 (nI nww) (nI nkk) nb1 nb2 nb3 nb4 nb5), (xI nb1 cI 6 ng1), (xI nb2 cI 6 ng2), (xI nb3 cI 6 ng3), (xI nb4 cI 6 ng4), (xI nb5 cI 6 ng5), (xo_0_rii ac be (nI q) (nI az)), (xJ be cL 24 fb)] : va_W) ++ lvs cI 24 ad bd V G) s.heap.size = A at hD ⊢
  have hA : ∀ q : Nat, s.heap.size ≤ q → A q := fun q h => by rw [← hAe]; exact Or.inr h
  have hS : va_S A s.heap s.heap [] := va_S.rf
  have hP : va_P (dC, dI) vwCl (([(xo_7_rrrrrrrrrii x ro ta no ac im tr pl cs ak xf xg), (xo_3_iiiiiiiirrrrr no nv0 nv1 nv2 nv3 (nI nhh) nv5 (nI nww) (nI nkk) nb1 nb2 nb3 nb4 nb5), (xI nb1 cI 6 ng1), (xI nb2 cI 6 ng2), (xI nb3 cI 6 ng3), (xI nb4 cI 6 ng4), (xI nb5 cI 6 ng5), (xo_0_rii ac be (nI q) (nI az)), (xJ be cL 24 fb)] : va_W) ++ lvs cI 24 ad bd V G) s.heap := hP
  have hl := lv_entry ([.ref x, .int k0]) (n := 2) (Nat.le_of_ble_eq_true rfl)
  rw [lg_entry_eq]
  generalize (lg_sl ([.ref x, .int k0]) ++ List.replicate (2 - (lg_sl ([.ref x, .int k0])).length) Slot.unset).toArray = ls at hl ⊢
  have hl : lv_has ls 2 [(0, .ref x), (1, .int k0)] := hl
  refine lv_aload_n hx hb dX7_sell_0 rfl (lv_at hl 0 rfl) ?_
  refine va_get (D := (dC, dI)) (ci := 7) (v := .ref no) (C := RX7) (T := TX7) (N := 11) hx hb hts i_X7_sell_X7 hown hK hP 0 rfl rfl 2 (by decide) (hts _ mx_X7_sell_1) (fun _ h9 => h9) rfl dX7_sell_1 ?_
  have hPc_1 := hP.sub (ws' := [(xo_3_iiiiiiiirrrrr no nv0 nv1 nv2 nv3 (nI nhh) nv5 (nI nww) (nI nkk) nb1 nb2 nb3 nb4 nb5), (xI nb1 cI 6 ng1), (xI nb2 cI 6 ng2), (xI nb3 cI 6 ng3), (xI nb4 cI 6 ng4), (xI nb5 cI 6 ng5)]) [1, 2, 3, 4, 5, 6] rfl
  refine vp_callSi (W.runV (As := []) (rest := []) ⟨hx, hb, hml, hown, hts⟩ (r_X3_isTold l dC dI cI cZ cL cJ no nv0 nv1 nv2 nv3 nv5 nhh nww nkk nb1 nb2 nb3 nb4 nb5 ng1 ng2 ng3 ng4 ng5 (by omega) (by omega) (by omega)) (cwV 0 hts gX7_sell_X3_isTold rfl rfl rfl (by decide +kernel) ⟨Nat.le_of_ble_eq_true rfl, Nat.le_of_ble_eq_true rfl⟩) (pvP 3 1 hK hP rfl rfl hPc_1) rfl rfl hl.1 rfl (lv_room (Nat.le_of_ble_eq_true rfl)) dX7_sell_4 ⟨Nat.le_of_ble_eq_true rfl, Nat.le_of_ble_eq_true rfl⟩) (fun r_1 h_1 => ?_)
  rcases h_1 with ⟨h_1, f_1_0_0⟩ | ⟨h_1, f_1_1_0⟩
  · subst h_1
    refine lv_if_ne (tgt := 13) hx hb dX7_sell_7 (by decide) (fun c_ => absurd (by decide) c_) (fun _ => ?_)
    refine lv_ldc (own := RX7) (v := (-1000002)) hx hb hown (hts _ mx_X7_sell_2) dX7_sell_10 ?_
    have hX9 := cut2P (cx := [(xo_7_rrrrrrrrrii x ro ta no ac im tr pl cs ak xf xg), (xo_3_iiiiiiiirrrrr no nv0 nv1 nv2 nv3 (nI nhh) nv5 (nI nww) (nI nkk) nb1 nb2 nb3 nb4 nb5), (xI nb1 cI 6 ng1), (xI nb2 cI 6 ng2), (xI nb3 cI 6 ng3), (xI nb4 cI 6 ng4), (xI nb5 cI 6 ng5), (xo_0_rii ac be (nI q) (nI az)), (xJ be cL 24 fb)]) hP hD [0, 1, 2, 3, 4, 5, 6, 7, 8] (by decide +kernel) rfl
    exact W.iret (v := (-1000002)) hx hb hr (fun t ht hW => ⟨⟨(-1000002), (), rfl, (lf_X7_sell_4 nhb nwb nkb hLv hfb hok hq haz f_1_0_0), ⟨V, G, nv0, nv1, nv2, nv3, nv5, ng1, ng2, ng3, ng4, ng5, nhh, nww, nkk, q, az, va_Ht ht hX9.1, hX9.2, hok, (by omega), (by omega), (by omega), (by omega), (by omega), (lf_X7_sell_1 nhb nwb nkb hLv hfb hok hq haz f_1_0_0), (lf_X7_sell_2 nhb nwb nkb hLv hfb hok hq haz f_1_0_0), (lf_X7_sell_3 nhb nwb nkb hLv hfb hok hq haz f_1_0_0)⟩⟩, hS.F ht⟩) hS.2.2 dX7_sell_12
  · subst h_1
    refine lv_if_ne (tgt := 13) hx hb dX7_sell_7 (by decide) (fun _ => ?_) (fun c_ => absurd c_ (by decide))
    refine lv_iload_n hx hb dX7_sell_13 rfl (lv_at hl 1 rfl) ?_
    refine lv_iconst (v := 1) hx hb dX7_sell_14 (by decide) ?_
    refine lv_icmp_lt (tgt := 25) hx hb dX7_sell_15 (by decide) (fun c_4 => ?_) (fun c_4 => ?_)
    · skip
      refine lv_ldc (own := RX7) (v := (-1000001)) hx hb hown (hts _ mx_X7_sell_3) dX7_sell_25 ?_
      have hX9 := cut2P (cx := [(xo_7_rrrrrrrrrii x ro ta no ac im tr pl cs ak xf xg), (xo_3_iiiiiiiirrrrr no nv0 nv1 nv2 nv3 (nI nhh) nv5 (nI nww) (nI nkk) nb1 nb2 nb3 nb4 nb5), (xI nb1 cI 6 ng1), (xI nb2 cI 6 ng2), (xI nb3 cI 6 ng3), (xI nb4 cI 6 ng4), (xI nb5 cI 6 ng5), (xo_0_rii ac be (nI q) (nI az)), (xJ be cL 24 fb)]) hP hD [0, 1, 2, 3, 4, 5, 6, 7, 8] (by decide +kernel) rfl
      exact W.iret (v := (-1000001)) hx hb hr (fun t ht hW => ⟨⟨(-1000001), (), rfl, (lf_X7_sell_8 nhb nwb nkb hLv hfb hok hq haz f_1_1_0 c_4), ⟨V, G, nv0, nv1, nv2, nv3, nv5, ng1, ng2, ng3, ng4, ng5, nhh, nww, nkk, q, az, va_Ht ht hX9.1, hX9.2, hok, (by omega), (by omega), (by omega), (by omega), (by omega), (lf_X7_sell_5 nhb nwb nkb hLv hfb hok hq haz f_1_1_0 c_4), (lf_X7_sell_6 nhb nwb nkb hLv hfb hok hq haz f_1_1_0 c_4), (lf_X7_sell_7 nhb nwb nkb hLv hfb hok hq haz f_1_1_0 c_4)⟩⟩, hS.F ht⟩) hS.2.2 dX7_sell_27
    · skip
      refine lv_iload_n hx hb dX7_sell_18 rfl (lv_at hl 1 rfl) ?_
      refine lv_sipush (v := 999) hx hb dX7_sell_19 (by decide) ?_
      refine lv_icmp_le (tgt := 28) hx hb dX7_sell_22 (by decide) (fun c_5 => ?_) (fun c_5 => ?_)
      · skip
        refine lv_aload_n hx hb dX7_sell_28 rfl (lv_at hl 0 rfl) ?_
        refine va_get (D := (dC, dI)) (ci := 7) (v := .ref no) (C := RX7) (T := TX7) (N := 11) hx hb hts i_X7_sell_X7 hown hK hP 0 rfl rfl 2 (by decide) (hts _ mx_X7_sell_1) (fun _ h9 => h9) rfl dX7_sell_29 ?_
        refine va_get (D := (dC, dI)) (ci := 3) (v := .int nv5) (C := RX3) (T := TX3) (N := 13) hx hb hts i_X7_sell_X3 hown hK hP 1 rfl rfl 5 (by decide) (hts _ mx_X7_sell_4) (fun _ h9 => h9) rfl dX7_sell_32 ?_
        refine lv_iload_n hx hb dX7_sell_35 rfl (lv_at hl 1 rfl) ?_
        refine lv_icmp_ge (tgt := 42) hx hb dX7_sell_36 (by decide) (fun c_6 => ?_) (fun c_6 => ?_)
        · skip
          refine lv_aload_n hx hb dX7_sell_42 rfl (lv_at hl 0 rfl) ?_
          refine va_get (D := (dC, dI)) (ci := 7) (v := .ref ac) (C := RX7) (T := TX7) (N := 11) hx hb hts i_X7_sell_X7 hown hK hP 0 rfl rfl 3 (by decide) (hts _ mx_X7_sell_5) (fun _ h9 => h9) rfl dX7_sell_43 ?_
          refine lv_aload_n hx hb dX7_sell_46 rfl (lv_at hl 0 rfl) ?_
          refine va_get (D := (dC, dI)) (ci := 7) (v := .ref no) (C := RX7) (T := TX7) (N := 11) hx hb hts i_X7_sell_X7 hown hK hP 0 rfl rfl 2 (by decide) (hts _ mx_X7_sell_1) (fun _ h9 => h9) rfl dX7_sell_47 ?_
          have hc_7 := cutP (cx := [(xo_0_rii ac be (nI q) (nI az)), (xJ be cL 24 fb), (xo_3_iiiiiiiirrrrr no nv0 nv1 nv2 nv3 (nI nhh) nv5 (nI nww) (nI nkk) nb1 nb2 nb3 nb4 nb5), (xI nb1 cI 6 ng1), (xI nb2 cI 6 ng2), (xI nb3 cI 6 ng3), (xI nb4 cI 6 ng4), (xI nb5 cI 6 ng5)]) hP hD hS hA [7, 8, 1, 2, 3, 4, 5, 6] (by decide +kernel) rfl
          refine va_callv (va_runV (As := [.ref no]) (rest := []) ⟨hx, hb, hml, hown, hts⟩ (r_X0_keep l dC dI cI cZ cL cJ s.heap.size ac be q az fb ad bd V G no nv0 nv1 nv2 nv3 nv5 nhh nww nkk nb1 nb2 nb3 nb4 nb5 ng1 ng2 ng3 ng4 ng5 (hfb) (hok) (by omega) (by omega) (by omega) (by omega) (by omega)) (cwV 1 hts gX7_sell_X0_keep rfl rfl rfl (by decide +kernel) ⟨Nat.le_of_ble_eq_true rfl, Nat.le_of_ble_eq_true rfl⟩) (pvW 0 7 hK hP rfl rfl hc_7) rfl rfl hl.1 rfl (lv_room (Nat.le_of_ble_eq_true rfl)) dX7_sell_50 ⟨Nat.le_of_ble_eq_true rfl, Nat.le_of_ble_eq_true rfl⟩) hS (fun q _ h => hc_7.2.2 q h) hc_7.2.2 (fun u_7 t_7 H1 locs ht hvm h_7 hB hz1 hk1 hS => ?_)
          refine xl_4_9 hB (fun Vn_7 Gn_7 qn_7 zn_7 hP1 hD1 hF_7_0 hF_7_1 hF_7_2 hF_7_3 hF_7_4 hF_7_5 hF_7_6 => ?_)
          clear hB
          rw [ht] at hP1
          obtain ⟨hP, hD⟩ := va_joinP (wr := [(xo_7_rrrrrrrrrii x ro ta no ac im tr pl cs ak xf xg)]) (rx := [(xo_0_rii ac be (nI qn_7) (nI zn_7)), (xJ be cL 24 fb), (xo_3_iiiiiiiirrrrr no nv0 nv1 nv2 nv3 (nI nhh) nv5 (nI nww) (nI nkk) nb1 nb2 nb3 nb4 nb5), (xI nb1 cI 6 ng1), (xI nb2 cI 6 ng2), (xI nb3 cI 6 ng3), (xI nb4 cI 6 ng4), (xI nb5 cI 6 ng5)]) (pl1 := lvs cI 24 ad bd Vn_7 Gn_7) hP hD [7, 8, 1, 2, 3, 4, 5, 6] [0] rfl rfl (by decide +kernel) (by decide +kernel) hk1 hc_7.2.2 hP1 hD1
          generalize H1 = H at hP hS ⊢
          have hP : va_P (dC, dI) vwCl (([(xo_7_rrrrrrrrrii x ro ta no ac im tr pl cs ak xf xg), (xo_0_rii ac be (nI qn_7) (nI zn_7)), (xJ be cL 24 fb), (xo_3_iiiiiiiirrrrr no nv0 nv1 nv2 nv3 (nI nhh) nv5 (nI nww) (nI nkk) nb1 nb2 nb3 nb4 nb5), (xI nb1 cI 6 ng1), (xI nb2 cI 6 ng2), (xI nb3 cI 6 ng3), (xI nb4 cI 6 ng4), (xI nb5 cI 6 ng5)] : va_W) ++ lvs cI 24 ad bd Vn_7 Gn_7) H := hP
          have hD := dto hP hD
          refine lv_aload_n hx hb dX7_sell_53 rfl (lv_at hl 0 rfl) ?_
          refine va_get (D := (dC, dI)) (ci := 7) (v := .ref no) (C := RX7) (T := TX7) (N := 11) hx hb hts i_X7_sell_X7 hown hK hP 0 rfl rfl 2 (by decide) (hts _ mx_X7_sell_1) (fun _ h9 => h9) rfl dX7_sell_54 ?_
          refine lv_dup hx hb dX7_sell_57 rfl ?_
          refine va_get (D := (dC, dI)) (ci := 3) (v := .int nv5) (C := RX3) (T := TX3) (N := 13) hx hb hts i_X7_sell_X3 hown hK hP 3 rfl rfl 5 (by decide) (hts _ mx_X7_sell_4) (fun _ h9 => h9) rfl dX7_sell_58 ?_
          refine lv_iload_n hx hb dX7_sell_61 rfl (lv_at hl 1 rfl) ?_
          refine lv_isub hx hb dX7_sell_62 ?_
          refine lv_topi (fun v_8 e_8 => ?_)
          refine va_put (D := (dC, dI)) (ci := 3) (v := .int v_8) (ty := .int) (C := RX3) (T := TX3) (N := 13) hx hb hts i_X7_sell_X3 tyX3 tyX3_ok nmX3 hown hK hP hD hS 3 rfl rfl 5 (by decide) (hts _ mx_X7_sell_4) (fun _ h9 => h9) rfl (by decide +kernel) rfl rfl (Nat.le_of_ble_eq_true rfl) dX7_sell_63 (fun H locs hP hD hS => ?_)
          have hP : va_P (dC, dI) vwCl (([(xo_7_rrrrrrrrrii x ro ta no ac im tr pl cs ak xf xg), (xo_0_rii ac be (nI qn_7) (nI zn_7)), (xJ be cL 24 fb), (xo_3_iiiiiiiirrrrr no nv0 nv1 nv2 nv3 (nI nhh) v_8 (nI nww) (nI nkk) nb1 nb2 nb3 nb4 nb5), (xI nb1 cI 6 ng1), (xI nb2 cI 6 ng2), (xI nb3 cI 6 ng3), (xI nb4 cI 6 ng4), (xI nb5 cI 6 ng5)] : va_W) ++ lvs cI 24 ad bd Vn_7 Gn_7) H := hP
          have hD := dto hP hD
          refine lv_aload_n hx hb dX7_sell_66 rfl (lv_at hl 0 rfl) ?_
          refine va_get (D := (dC, dI)) (ci := 7) (v := .ref no) (C := RX7) (T := TX7) (N := 11) hx hb hts i_X7_sell_X7 hown hK hP 0 rfl rfl 2 (by decide) (hts _ mx_X7_sell_1) (fun _ h9 => h9) rfl dX7_sell_67 ?_
          refine va_get (D := (dC, dI)) (ci := 3) (v := .int v_8) (C := RX3) (T := TX3) (N := 13) hx hb hts i_X7_sell_X3 hown hK hP 3 rfl rfl 5 (by decide) (hts _ mx_X7_sell_4) (fun _ h9 => h9) rfl dX7_sell_70 ?_
          have hX9 := cut2P (cx := [(xo_7_rrrrrrrrrii x ro ta no ac im tr pl cs ak xf xg), (xo_3_iiiiiiiirrrrr no nv0 nv1 nv2 nv3 (nI nhh) v_8 (nI nww) (nI nkk) nb1 nb2 nb3 nb4 nb5), (xI nb1 cI 6 ng1), (xI nb2 cI 6 ng2), (xI nb3 cI 6 ng3), (xI nb4 cI 6 ng4), (xI nb5 cI 6 ng5), (xo_0_rii ac be (nI qn_7) (nI zn_7)), (xJ be cL 24 fb)]) hP hD [0, 3, 4, 5, 6, 7, 8, 1, 2] (by decide +kernel) rfl
          exact W.iret (v := v_8) hx hb hr (fun t ht hW => ⟨⟨v_8, (), rfl, (lf_X7_sell_12 nhb nwb nkb hLv hfb hok hq haz f_1_1_0 c_4 c_5 c_6 hF_7_0 hF_7_1 hF_7_2 hF_7_3 hF_7_4 hF_7_5 hF_7_6 e_8), ⟨Vn_7, Gn_7, nv0, nv1, nv2, nv3, v_8, ng1, ng2, ng3, ng4, ng5, nhh, nww, nkk, qn_7, zn_7, va_Ht ht hX9.1, hX9.2, hF_7_0, (by omega), (by omega), (by omega), (by omega), (by omega), (lf_X7_sell_9 nhb nwb nkb hLv hfb hok hq haz f_1_1_0 c_4 c_5 c_6 hF_7_0 hF_7_1 hF_7_2 hF_7_3 hF_7_4 hF_7_5 hF_7_6 e_8), (lf_X7_sell_10 nhb nwb nkb hLv hfb hok hq haz f_1_1_0 c_4 c_5 c_6 hF_7_0 hF_7_1 hF_7_2 hF_7_3 hF_7_4 hF_7_5 hF_7_6 e_8), (lf_X7_sell_11 nhb nwb nkb hLv hfb hok hq haz f_1_1_0 c_4 c_5 c_6 hF_7_0 hF_7_1 hF_7_2 hF_7_3 hF_7_4 hF_7_5 hF_7_6 e_8)⟩⟩, hS.F ht⟩) hS.2.2 dX7_sell_73
        · skip
          refine lv_ldc (own := RX7) (v := (-1000002)) hx hb hown (hts _ mx_X7_sell_2) dX7_sell_39 ?_
          have hX9 := cut2P (cx := [(xo_7_rrrrrrrrrii x ro ta no ac im tr pl cs ak xf xg), (xo_3_iiiiiiiirrrrr no nv0 nv1 nv2 nv3 (nI nhh) nv5 (nI nww) (nI nkk) nb1 nb2 nb3 nb4 nb5), (xI nb1 cI 6 ng1), (xI nb2 cI 6 ng2), (xI nb3 cI 6 ng3), (xI nb4 cI 6 ng4), (xI nb5 cI 6 ng5), (xo_0_rii ac be (nI q) (nI az)), (xJ be cL 24 fb)]) hP hD [0, 1, 2, 3, 4, 5, 6, 7, 8] (by decide +kernel) rfl
          exact W.iret (v := (-1000002)) hx hb hr (fun t ht hW => ⟨⟨(-1000002), (), rfl, (lf_X7_sell_16 nhb nwb nkb hLv hfb hok hq haz f_1_1_0 c_4 c_5 c_6), ⟨V, G, nv0, nv1, nv2, nv3, nv5, ng1, ng2, ng3, ng4, ng5, nhh, nww, nkk, q, az, va_Ht ht hX9.1, hX9.2, hok, (by omega), (by omega), (by omega), (by omega), (by omega), (lf_X7_sell_13 nhb nwb nkb hLv hfb hok hq haz f_1_1_0 c_4 c_5 c_6), (lf_X7_sell_14 nhb nwb nkb hLv hfb hok hq haz f_1_1_0 c_4 c_5 c_6), (lf_X7_sell_15 nhb nwb nkb hLv hfb hok hq haz f_1_1_0 c_4 c_5 c_6)⟩⟩, hS.F ht⟩) hS.2.2 dX7_sell_41
      · skip
        refine lv_ldc (own := RX7) (v := (-1000001)) hx hb hown (hts _ mx_X7_sell_3) dX7_sell_25 ?_
        have hX9 := cut2P (cx := [(xo_7_rrrrrrrrrii x ro ta no ac im tr pl cs ak xf xg), (xo_3_iiiiiiiirrrrr no nv0 nv1 nv2 nv3 (nI nhh) nv5 (nI nww) (nI nkk) nb1 nb2 nb3 nb4 nb5), (xI nb1 cI 6 ng1), (xI nb2 cI 6 ng2), (xI nb3 cI 6 ng3), (xI nb4 cI 6 ng4), (xI nb5 cI 6 ng5), (xo_0_rii ac be (nI q) (nI az)), (xJ be cL 24 fb)]) hP hD [0, 1, 2, 3, 4, 5, 6, 7, 8] (by decide +kernel) rfl
        exact W.iret (v := (-1000001)) hx hb hr (fun t ht hW => ⟨⟨(-1000001), (), rfl, (lf_X7_sell_20 nhb nwb nkb hLv hfb hok hq haz f_1_1_0 c_4 c_5), ⟨V, G, nv0, nv1, nv2, nv3, nv5, ng1, ng2, ng3, ng4, ng5, nhh, nww, nkk, q, az, va_Ht ht hX9.1, hX9.2, hok, (by omega), (by omega), (by omega), (by omega), (by omega), (lf_X7_sell_17 nhb nwb nkb hLv hfb hok hq haz f_1_1_0 c_4 c_5), (lf_X7_sell_18 nhb nwb nkb hLv hfb hok hq haz f_1_1_0 c_4 c_5), (lf_X7_sell_19 nhb nwb nkb hLv hfb hok hq haz f_1_1_0 c_4 c_5)⟩⟩, hS.F ht⟩) hS.2.2 dX7_sell_27
-- 32.mill3b_d
theorem hrs_pos {r : RF} {An j h : Nat} {Ac : AC} (h1 : ¬ nI j < 1) (h0 : ¬ r 0 = 0) (hj : j ≤ 24) (h5 : r 5 = nI h) (hh : h + j ≤ 999) {R : RF} {z : Nat} {A : AC} (e : hrI j r An Ac = (R, z, A)) : R = (s_hrs r An Ac (nI j)).1 ∧ z = (s_hrs r An Ac (nI j)).2.1 ∧ A = (s_hrs r An Ac (nI j)).2.2 ∧ R 7 = a_hrs r (nI j) := by
  have hc : (nI j).toNatClampNeg = j := nI_clamp (by omega)
  have a1 : ¬ (24 : Int32) < nI j := fun q => absurd ((nI_ltI (a := 24) (b := j) (by omega) (by omega)).mp q) (by omega)
  have a2 : ¬ (999 : Int32) < r 5 + nI j := by
    rw [h5, nI_add]
    exact fun q => absurd ((nI_ltI (a := 999) (b := h + j) (by omega) (by omega)).mp q) (by omega)
  have a3 : ¬ (nI j < 1 ∨ (24 : Int32) < nI j) := fun q => q.elim h1 a1
  have hg : gd_hrs r (nI j) := ⟨h0, a3, a2⟩
  have b1 : s_hrs r An Ac (nI j) = (R, z, A) := by
    unfold s_hrs
    rw [if_pos hg, hc, e]
  have b2 : mGo j r = R := by
    rw [← hrI_7 (t := j) (n := An) (r := r) (a := Ac), e]
  rw [b1]
  refine ⟨rfl, rfl, rfl, ?_⟩
  unfold a_hrs
  rw [if_neg h0, if_neg a3, if_neg a2, hc, b2]
theorem hrs_nega {r : RF} {j h : Nat} (h1 : ¬ nI j < 1) (h0 : ¬ r 0 = 0) (hj : j ≤ 24) (h5 : r 5 = nI h) (hb : h ≤ 999) (hh : ¬ h + j ≤ 999) : a_hrs r (nI j) = -1000003 := by
  have a1 : ¬ (24 : Int32) < nI j := fun q => absurd ((nI_ltI (a := 24) (b := j) (by omega) (by omega)).mp q) (by omega)
  have a2 : (999 : Int32) < r 5 + nI j := by
    rw [h5, nI_add]
    exact (nI_ltI (a := 999) (b := h + j) (by omega) (by omega)).mpr (by omega)
  have a3 : ¬ (nI j < 1 ∨ (24 : Int32) < nI j) := fun q => q.elim h1 a1
  unfold a_hrs
  rw [if_neg h0, if_neg a3, if_pos a2]
theorem hrs_neg {r : RF} {An j h : Nat} {Ac : AC} (h1 : ¬ nI j < 1) (h0 : ¬ r 0 = 0) (hj : j ≤ 24) (h5 : r 5 = nI h) (hb : h ≤ 999) (hh : ¬ h + j ≤ 999) : s_hrs r An Ac (nI j) = (r, An, Ac) := by
  have a2 : (999 : Int32) < r 5 + nI j := by
    rw [h5, nI_add]
    exact (nI_ltI (a := 999) (b := h + j) (by omega) (by omega)).mpr (by omega)
  have hg : ¬ gd_hrs r (nI j) := fun q => q.2.2 a2
  unfold s_hrs
  rw [if_neg hg]
theorem dX7_hours_0 : decode cX7_hours 0 = .ok (.aload_n 0, 1) := dq_42 (by decide +kernel)
theorem dX7_hours_1 : decode cX7_hours 1 = .ok (.getfield 26, 3) := dq_180 (b1 := 0) (b2 := 26) (by decide +kernel) (by decide)
theorem dX7_hours_10 : decode cX7_hours 10 = .ok (.ldc 141, 2) := dq_18 (b1 := 141) (by decide +kernel) (by decide)
theorem dX7_hours_12 : decode cX7_hours 12 = .ok (.ireturn, 1) := dq_172 (by decide +kernel)
theorem dX7_hours_13 : decode cX7_hours 13 = .ok (.iload_n 1, 1) := dq_27 (by decide +kernel)
theorem dX7_hours_14 : decode cX7_hours 14 = .ok (.iconst 1, 1) := dq_4 (by decide +kernel)
theorem dX7_hours_15 : decode cX7_hours 15 = .ok (.if_icmp .lt 9, 3) := dq_161 (b1 := 0) (b2 := 9) (by decide +kernel) (by decide)
theorem dX7_hours_18 : decode cX7_hours 18 = .ok (.iload_n 1, 1) := dq_27 (by decide +kernel)
theorem dX7_hours_19 : decode cX7_hours 19 = .ok (.bipush 24, 2) := dq_16 (b1 := 24) (by decide +kernel) (by decide)
theorem dX7_hours_21 : decode cX7_hours 21 = .ok (.if_icmp .le 6, 3) := dq_164 (b1 := 0) (b2 := 6) (by decide +kernel) (by decide)
theorem dX7_hours_24 : decode cX7_hours 24 = .ok (.ldc 72, 2) := dq_18 (b1 := 72) (by decide +kernel) (by decide)
theorem dX7_hours_26 : decode cX7_hours 26 = .ok (.ireturn, 1) := dq_172 (by decide +kernel)
theorem dX7_hours_27 : decode cX7_hours 27 = .ok (.aload_n 0, 1) := dq_42 (by decide +kernel)
theorem dX7_hours_28 : decode cX7_hours 28 = .ok (.getfield 26, 3) := dq_180 (b1 := 0) (b2 := 26) (by decide +kernel) (by decide)
theorem dX7_hours_31 : decode cX7_hours 31 = .ok (.getfield 148, 3) := dq_180 (b1 := 0) (b2 := 148) (by decide +kernel) (by decide)
theorem dX7_hours_34 : decode cX7_hours 34 = .ok (.iload_n 1, 1) := dq_27 (by decide +kernel)
theorem dX7_hours_35 : decode cX7_hours 35 = .ok (.iadd, 1) := dq_96 (by decide +kernel)
theorem dX7_hours_36 : decode cX7_hours 36 = .ok (.sipush 999, 3) := dq_17 (b1 := 3) (b2 := 231) (by decide +kernel) (by decide)
theorem dX7_hours_39 : decode cX7_hours 39 = .ok (.if_icmp .le 6, 3) := dq_164 (b1 := 0) (b2 := 6) (by decide +kernel) (by decide)
theorem dX7_hours_4 : decode cX7_hours 4 = .ok (.invokevirtual 145, 3) := dq_182 (b1 := 0) (b2 := 145) (by decide +kernel) (by decide)
theorem dX7_hours_42 : decode cX7_hours 42 = .ok (.ldc 109, 2) := dq_18 (b1 := 109) (by decide +kernel) (by decide)
theorem dX7_hours_44 : decode cX7_hours 44 = .ok (.ireturn, 1) := dq_172 (by decide +kernel)
theorem dX7_hours_45 : decode cX7_hours 45 = .ok (.iconst 0, 1) := dq_3 (by decide +kernel)
theorem dX7_hours_46 : decode cX7_hours 46 = .ok (.istore_n 2, 1) := dq_61 (by decide +kernel)
theorem dX7_hours_47 : decode cX7_hours 47 = .ok (.iload_n 2, 1) := dq_28 (by decide +kernel)
theorem dX7_hours_48 : decode cX7_hours 48 = .ok (.iload_n 1, 1) := dq_27 (by decide +kernel)
theorem dX7_hours_49 : decode cX7_hours 49 = .ok (.if_icmp .ge 27, 3) := dq_162 (b1 := 0) (b2 := 27) (by decide +kernel) (by decide)
theorem dX7_hours_52 : decode cX7_hours 52 = .ok (.aload_n 0, 1) := dq_42 (by decide +kernel)
theorem dX7_hours_53 : decode cX7_hours 53 = .ok (.getfield 33, 3) := dq_180 (b1 := 0) (b2 := 33) (by decide +kernel) (by decide)
theorem dX7_hours_56 : decode cX7_hours 56 = .ok (.aload_n 0, 1) := dq_42 (by decide +kernel)
theorem dX7_hours_57 : decode cX7_hours 57 = .ok (.getfield 26, 3) := dq_180 (b1 := 0) (b2 := 26) (by decide +kernel) (by decide)
theorem dX7_hours_60 : decode cX7_hours 60 = .ok (.invokevirtual 151, 3) := dq_182 (b1 := 0) (b2 := 151) (by decide +kernel) (by decide)
theorem dX7_hours_63 : decode cX7_hours 63 = .ok (.aload_n 0, 1) := dq_42 (by decide +kernel)
theorem dX7_hours_64 : decode cX7_hours 64 = .ok (.getfield 26, 3) := dq_180 (b1 := 0) (b2 := 26) (by decide +kernel) (by decide)
theorem dX7_hours_67 : decode cX7_hours 67 = .ok (.invokevirtual 154, 3) := dq_182 (b1 := 0) (b2 := 154) (by decide +kernel) (by decide)
theorem dX7_hours_7 : decode cX7_hours 7 = .ok (.ifCond .ne 6, 3) := dq_154 (b1 := 0) (b2 := 6) (by decide +kernel) (by decide)
theorem dX7_hours_70 : decode cX7_hours 70 = .ok (.iinc 2 1, 3) := dq_132 (b1 := 2) (b2 := 1) (by decide +kernel) (by decide) (by decide)
theorem dX7_hours_73 : decode cX7_hours 73 = .ok (.goto (-26), 3) := dq_167 (b1 := 255) (b2 := 230) (by decide +kernel) (by decide)
theorem dX7_hours_76 : decode cX7_hours 76 = .ok (.aload_n 0, 1) := dq_42 (by decide +kernel)
theorem dX7_hours_77 : decode cX7_hours 77 = .ok (.getfield 26, 3) := dq_180 (b1 := 0) (b2 := 26) (by decide +kernel) (by decide)
theorem dX7_hours_80 : decode cX7_hours 80 = .ok (.getfield 157, 3) := dq_180 (b1 := 0) (b2 := 157) (by decide +kernel) (by decide)
theorem dX7_hours_83 : decode cX7_hours 83 = .ok (.ireturn, 1) := dq_172 (by decide +kernel)
theorem dX7_undo_0 : decode cX7_undo 0 = .ok (.aload_n 0, 1) := dq_42 (by decide +kernel)
theorem dX7_undo_1 : decode cX7_undo 1 = .ok (.getfield 33, 3) := dq_180 (b1 := 0) (b2 := 33) (by decide +kernel) (by decide)
theorem dX7_undo_10 : decode cX7_undo 10 = .ok (.ldc 141, 2) := dq_18 (b1 := 141) (by decide +kernel) (by decide)
theorem dX7_undo_12 : decode cX7_undo 12 = .ok (.ireturn, 1) := dq_172 (by decide +kernel)
theorem dX7_undo_13 : decode cX7_undo 13 = .ok (.aload_n 0, 1) := dq_42 (by decide +kernel)
theorem dX7_undo_14 : decode cX7_undo 14 = .ok (.getfield 33, 3) := dq_180 (b1 := 0) (b2 := 33) (by decide +kernel) (by decide)
theorem dX7_undo_17 : decode cX7_undo 17 = .ok (.aload_n 0, 1) := dq_42 (by decide +kernel)
theorem dX7_undo_18 : decode cX7_undo 18 = .ok (.getfield 26, 3) := dq_180 (b1 := 0) (b2 := 26) (by decide +kernel) (by decide)
theorem dX7_undo_21 : decode cX7_undo 21 = .ok (.invokevirtual 142, 3) := dq_182 (b1 := 0) (b2 := 142) (by decide +kernel) (by decide)
theorem dX7_undo_24 : decode cX7_undo 24 = .ok (.aload_n 0, 1) := dq_42 (by decide +kernel)
theorem dX7_undo_25 : decode cX7_undo 25 = .ok (.getfield 33, 3) := dq_180 (b1 := 0) (b2 := 33) (by decide +kernel) (by decide)
theorem dX7_undo_28 : decode cX7_undo 28 = .ok (.getfield 138, 3) := dq_180 (b1 := 0) (b2 := 138) (by decide +kernel) (by decide)
theorem dX7_undo_31 : decode cX7_undo 31 = .ok (.ireturn, 1) := dq_172 (by decide +kernel)
theorem dX7_undo_4 : decode cX7_undo 4 = .ok (.getfield 138, 3) := dq_180 (b1 := 0) (b2 := 138) (by decide +kernel) (by decide)
theorem dX7_undo_7 : decode cX7_undo 7 = .ok (.ifCond .ne 6, 3) := dq_154 (b1 := 0) (b2 := 6) (by decide +kernel) (by decide)
theorem mb_X7_hours_wsX7_hours_r1 {w : Cond} (h : w ∈ wsX7_hours_r1) : w ∈ wsX7_hours := by unfold wsX7_hours; exact List.mem_cons_of_mem _ (List.mem_append_left _ (List.mem_append_left _ (List.mem_append_left _ (List.mem_append_left _ (h)))))
theorem mx_X7_hours_18 : Cond.code yX0_keep cX0_keep 2 none ∈ wsX7_hours := mb_X7_hours_wsX7_hours_r1 (List.mem_of_getElem? (i := 17) rfl)
theorem mx_X7_hours_19 : Cond.fieldLink RX0 11 "MillTalk$Acts" "before" "[LMillTalk$Level;" ∈ wsX7_hours := mb_X7_hours_wsX7_hours_r1 (List.mem_of_getElem? (i := 18) rfl)
theorem mx_X7_hours_20 : Cond.fieldLink RX0 20 "MillTalk$Acts" "next" "I" ∈ wsX7_hours := mb_X7_hours_wsX7_hours_r1 (List.mem_of_getElem? (i := 19) rfl)
theorem mx_X7_hours_21 : Cond.fieldLink RX0 16 "MillTalk$Acts" "size" "I" ∈ wsX7_hours := mb_X7_hours_wsX7_hours_r1 (List.mem_of_getElem? (i := 20) rfl)
theorem mx_X7_hours_22 : Cond.methodLink RX0 27 Lib.Math.min.name ∈ wsX7_hours := mb_X7_hours_wsX7_hours_r1 (List.mem_of_getElem? (i := 21) rfl)
theorem mx_X7_hours_23 : Cond.static Lib.Math.min.name ∈ wsX7_hours := mb_X7_hours_wsX7_hours_r1 (List.mem_of_getElem? (i := 22) rfl)
theorem mx_X7_hours_24 : Cond.initialized "java/lang/Math" ∈ wsX7_hours := mb_X7_hours_wsX7_hours_r1 (List.mem_of_getElem? (i := 23) rfl)
theorem mb_X7_hours_wsX7_hours_r2 {w : Cond} (h : w ∈ wsX7_hours_r2) : w ∈ wsX7_hours := by unfold wsX7_hours; exact List.mem_cons_of_mem _ (List.mem_append_left _ (List.mem_append_left _ (List.mem_append_left _ (List.mem_append_right _ (List.mem_append_left _ (h))))))
theorem mx_X7_hours_25 : Cond.code Lib.Math.min.name Lib.Math.min.code 2 (some .int) ∈ wsX7_hours := mb_X7_hours_wsX7_hours_r2 (List.mem_of_getElem? (i := 0) rfl)
theorem mx_X7_hours_26 : Cond.methodLink RX0 23 yX3_becomeLike ∈ wsX7_hours := mb_X7_hours_wsX7_hours_r2 (List.mem_of_getElem? (i := 1) rfl)
theorem mx_X7_hours_27 : Cond.instanceMethod yX3_becomeLike ∈ wsX7_hours := mb_X7_hours_wsX7_hours_r2 (List.mem_of_getElem? (i := 2) rfl)
theorem mx_X7_hours_28 : Cond.selects RX3 yX3_becomeLike yX3_becomeLike ∈ wsX7_hours := mb_X7_hours_wsX7_hours_r2 (List.mem_of_getElem? (i := 3) rfl)
theorem mx_X7_hours_11 : Cond.initialized RX3 ∈ wsX7_hours := mb_X7_hours_wsX7_hours_r1 (List.mem_of_getElem? (i := 10) rfl)
theorem mx_X7_hours_29 : Cond.code yX3_becomeLike cX3_becomeLike 2 none ∈ wsX7_hours := mb_X7_hours_wsX7_hours_r2 (List.mem_of_getElem? (i := 4) rfl)
theorem mx_X7_hours_13 : Cond.fieldLink RX3 27 "MillTalk$Level" "cells" "I" ∈ wsX7_hours := mb_X7_hours_wsX7_hours_r1 (List.mem_of_getElem? (i := 12) rfl)
theorem mx_X7_hours_30 : Cond.fieldLink RX3 31 "MillTalk$Level" "mill" "I" ∈ wsX7_hours := mb_X7_hours_wsX7_hours_r2 (List.mem_of_getElem? (i := 5) rfl)
theorem mx_X7_hours_31 : Cond.fieldLink RX3 34 "MillTalk$Level" "reach" "I" ∈ wsX7_hours := mb_X7_hours_wsX7_hours_r2 (List.mem_of_getElem? (i := 6) rfl)
theorem mx_X7_hours_32 : Cond.fieldLink RX3 37 "MillTalk$Level" "cap" "I" ∈ wsX7_hours := mb_X7_hours_wsX7_hours_r2 (List.mem_of_getElem? (i := 7) rfl)
theorem mx_X7_hours_33 : Cond.fieldLink RX3 40 "MillTalk$Level" "hour" "I" ∈ wsX7_hours := mb_X7_hours_wsX7_hours_r2 (List.mem_of_getElem? (i := 8) rfl)
theorem mx_X7_hours_34 : Cond.fieldLink RX3 43 "MillTalk$Level" "meal" "I" ∈ wsX7_hours := mb_X7_hours_wsX7_hours_r2 (List.mem_of_getElem? (i := 9) rfl)
theorem mx_X7_hours_35 : Cond.fieldLink RX3 46 "MillTalk$Level" "windCount" "I" ∈ wsX7_hours := mb_X7_hours_wsX7_hours_r2 (List.mem_of_getElem? (i := 10) rfl)
theorem mx_X7_hours_36 : Cond.fieldLink RX3 49 "MillTalk$Level" "soundCount" "I" ∈ wsX7_hours := mb_X7_hours_wsX7_hours_r2 (List.mem_of_getElem? (i := 11) rfl)
theorem mx_X7_hours_37 : Cond.fieldLink RX3 9 "MillTalk$Level" "winds" "[I" ∈ wsX7_hours := mb_X7_hours_wsX7_hours_r2 (List.mem_of_getElem? (i := 12) rfl)
theorem mx_X7_hours_38 : Cond.methodLink RX3 52 arraycopyName ∈ wsX7_hours := mb_X7_hours_wsX7_hours_r2 (List.mem_of_getElem? (i := 13) rfl)
theorem mx_X7_hours_39 : Cond.native arraycopyName ∈ wsX7_hours := mb_X7_hours_wsX7_hours_r2 (List.mem_of_getElem? (i := 14) rfl)
theorem mx_X7_hours_40 : Cond.static arraycopyName ∈ wsX7_hours := mb_X7_hours_wsX7_hours_r2 (List.mem_of_getElem? (i := 15) rfl)
theorem mx_X7_hours_41 : Cond.initialized "java/lang/System" ∈ wsX7_hours := mb_X7_hours_wsX7_hours_r2 (List.mem_of_getElem? (i := 16) rfl)
theorem mx_X7_hours_42 : Cond.fieldLink RX3 15 "MillTalk$Level" "kinds" "[I" ∈ wsX7_hours := mb_X7_hours_wsX7_hours_r2 (List.mem_of_getElem? (i := 17) rfl)
theorem mx_X7_hours_43 : Cond.fieldLink RX3 18 "MillTalk$Level" "places" "[I" ∈ wsX7_hours := mb_X7_hours_wsX7_hours_r2 (List.mem_of_getElem? (i := 18) rfl)
theorem mx_X7_hours_44 : Cond.fieldLink RX3 21 "MillTalk$Level" "louds" "[I" ∈ wsX7_hours := mb_X7_hours_wsX7_hours_r2 (List.mem_of_getElem? (i := 19) rfl)
theorem mx_X7_hours_45 : Cond.fieldLink RX3 24 "MillTalk$Level" "hows" "[I" ∈ wsX7_hours := mb_X7_hours_wsX7_hours_r2 (List.mem_of_getElem? (i := 20) rfl)
theorem mb_X7_hours_wsX00 {w : Cond} (h : w ∈ wsX00) : w ∈ wsX7_hours := by unfold wsX7_hours; exact List.mem_cons_of_mem _ (List.mem_append_right _ (h))
theorem mb_X7_hours_wsX30 {w : Cond} (h : w ∈ wsX30) : w ∈ wsX7_hours := by unfold wsX7_hours; exact List.mem_cons_of_mem _ (List.mem_append_left _ (List.mem_append_right _ (h)))
theorem ggX7_hours_X0_keep : GoodIn wsX7_hours wsX0_keep := goodIn_sub (by unfold wsX0_keep; exact List.forall_mem_cons.mpr ⟨mx_X7_hours_18, List.forall_mem_append.mpr ⟨List.forall_mem_append.mpr ⟨List.forall_mem_append.mpr ⟨(by unfold wsX0_keep_r1; exact List.forall_mem_cons.mpr ⟨mx_X7_hours_19, List.forall_mem_cons.mpr ⟨mx_X7_hours_20, List.forall_mem_cons.mpr ⟨mx_X7_hours_21, List.forall_mem_cons.mpr ⟨mx_X7_hours_22, List.forall_mem_cons.mpr ⟨mx_X7_hours_23, List.forall_mem_cons.mpr ⟨mx_X7_hours_24, List.forall_mem_cons.mpr ⟨mx_X7_hours_25, List.forall_mem_cons.mpr ⟨mx_X7_hours_26, List.forall_mem_cons.mpr ⟨mx_X7_hours_27, List.forall_mem_cons.mpr ⟨mx_X7_hours_28, List.forall_mem_cons.mpr ⟨mx_X7_hours_11, List.forall_mem_cons.mpr ⟨mx_X7_hours_29, List.forall_mem_cons.mpr ⟨mx_X7_hours_13, List.forall_mem_cons.mpr ⟨mx_X7_hours_30, List.forall_mem_cons.mpr ⟨mx_X7_hours_31, List.forall_mem_cons.mpr ⟨mx_X7_hours_32, List.forall_mem_cons.mpr ⟨mx_X7_hours_33, List.forall_mem_cons.mpr ⟨mx_X7_hours_34, List.forall_mem_cons.mpr ⟨mx_X7_hours_35, List.forall_mem_cons.mpr ⟨mx_X7_hours_36, List.forall_mem_cons.mpr ⟨mx_X7_hours_37, List.forall_mem_cons.mpr ⟨mx_X7_hours_38, List.forall_mem_cons.mpr ⟨mx_X7_hours_39, List.forall_mem_cons.mpr ⟨mx_X7_hours_40, fun _ h_ => absurd h_ List.not_mem_nil⟩⟩⟩⟩⟩⟩⟩⟩⟩⟩⟩⟩⟩⟩⟩⟩⟩⟩⟩⟩⟩⟩⟩⟩), (by unfold wsX0_keep_r2; exact List.forall_mem_cons.mpr ⟨mx_X7_hours_41, List.forall_mem_cons.mpr ⟨mx_X7_hours_42, List.forall_mem_cons.mpr ⟨mx_X7_hours_43, List.forall_mem_cons.mpr ⟨mx_X7_hours_44, List.forall_mem_cons.mpr ⟨mx_X7_hours_45, fun _ h_ => absurd h_ List.not_mem_nil⟩⟩⟩⟩⟩)⟩, (fun _ h_ => mb_X7_hours_wsX00 h_)⟩, (fun _ h_ => mb_X7_hours_wsX30 h_)⟩⟩) (by decide +kernel)
theorem mx_X7_hours_14 : Cond.methodLink RX7 151 yX0_keep ∈ wsX7_hours := mb_X7_hours_wsX7_hours_r1 (List.mem_of_getElem? (i := 13) rfl)
theorem mx_X7_hours_15 : Cond.instanceMethod yX0_keep ∈ wsX7_hours := mb_X7_hours_wsX7_hours_r1 (List.mem_of_getElem? (i := 14) rfl)
theorem mx_X7_hours_16 : Cond.selects RX0 yX0_keep yX0_keep ∈ wsX7_hours := mb_X7_hours_wsX7_hours_r1 (List.mem_of_getElem? (i := 15) rfl)
theorem mx_X7_hours_17 : Cond.initialized RX0 ∈ wsX7_hours := mb_X7_hours_wsX7_hours_r1 (List.mem_of_getElem? (i := 16) rfl)
theorem gX7_hours_X0_keep : GoodIn wsX7_hours (wsV RX7 151 RX0 yX0_keep wsX0_keep) := goodIn_app (goodIn_sub (List.forall_mem_cons.mpr ⟨mx_X7_hours_14, List.forall_mem_cons.mpr ⟨mx_X7_hours_15, List.forall_mem_cons.mpr ⟨mx_X7_hours_16, List.forall_mem_cons.mpr ⟨mx_X7_hours_17, fun _ h_ => absurd h_ List.not_mem_nil⟩⟩⟩⟩) (by decide +kernel)) ggX7_hours_X0_keep
theorem mx_X7_hours_12 : Cond.code yX3_isTold cX3_isTold 1 (some .boolean) ∈ wsX7_hours := mb_X7_hours_wsX7_hours_r1 (List.mem_of_getElem? (i := 11) rfl)
theorem ggX7_hours_X3_isTold : GoodIn wsX7_hours wsX3_isTold := goodIn_sub (by unfold wsX3_isTold; exact List.forall_mem_cons.mpr ⟨mx_X7_hours_12, List.forall_mem_append.mpr ⟨List.forall_mem_cons.mpr ⟨mx_X7_hours_13, fun _ h_ => absurd h_ List.not_mem_nil⟩, (fun _ h_ => mb_X7_hours_wsX30 h_)⟩⟩) (by decide +kernel)
theorem mx_X7_hours_8 : Cond.methodLink RX7 145 yX3_isTold ∈ wsX7_hours := mb_X7_hours_wsX7_hours_r1 (List.mem_of_getElem? (i := 7) rfl)
theorem mx_X7_hours_9 : Cond.instanceMethod yX3_isTold ∈ wsX7_hours := mb_X7_hours_wsX7_hours_r1 (List.mem_of_getElem? (i := 8) rfl)
theorem mx_X7_hours_10 : Cond.selects RX3 yX3_isTold yX3_isTold ∈ wsX7_hours := mb_X7_hours_wsX7_hours_r1 (List.mem_of_getElem? (i := 9) rfl)
theorem gX7_hours_X3_isTold : GoodIn wsX7_hours (wsV RX7 145 RX3 yX3_isTold wsX3_isTold) := goodIn_app (goodIn_sub (List.forall_mem_cons.mpr ⟨mx_X7_hours_8, List.forall_mem_cons.mpr ⟨mx_X7_hours_9, List.forall_mem_cons.mpr ⟨mx_X7_hours_10, List.forall_mem_cons.mpr ⟨mx_X7_hours_11, fun _ h_ => absurd h_ List.not_mem_nil⟩⟩⟩⟩) (by decide +kernel)) ggX7_hours_X3_isTold
theorem mb_X7_hours_wsX7_hours_r3 {w : Cond} (h : w ∈ wsX7_hours_r3) : w ∈ wsX7_hours := by unfold wsX7_hours; exact List.mem_cons_of_mem _ (List.mem_append_left _ (List.mem_append_left _ (List.mem_append_left _ (List.mem_append_right _ (List.mem_append_right _ (List.mem_append_left _ (h)))))))
theorem mx_X7_hours_49 : Cond.code yX3_pass cX3_pass 3 none ∈ wsX7_hours := mb_X7_hours_wsX7_hours_r3 (List.mem_of_getElem? (i := 0) rfl)
theorem mx_X7_hours_50 : Cond.methodLink RX3 87 yX3_windOn ∈ wsX7_hours := mb_X7_hours_wsX7_hours_r3 (List.mem_of_getElem? (i := 1) rfl)
theorem mx_X7_hours_51 : Cond.instanceMethod yX3_windOn ∈ wsX7_hours := mb_X7_hours_wsX7_hours_r3 (List.mem_of_getElem? (i := 2) rfl)
theorem mx_X7_hours_52 : Cond.selects RX3 yX3_windOn yX3_windOn ∈ wsX7_hours := mb_X7_hours_wsX7_hours_r3 (List.mem_of_getElem? (i := 3) rfl)
theorem mx_X7_hours_53 : Cond.code yX3_windOn cX3_windOn 2 (some .int) ∈ wsX7_hours := mb_X7_hours_wsX7_hours_r3 (List.mem_of_getElem? (i := 4) rfl)
theorem mx_X7_hours_54 : Cond.methodLink RX3 90 yX3_passSound ∈ wsX7_hours := mb_X7_hours_wsX7_hours_r3 (List.mem_of_getElem? (i := 5) rfl)
theorem mx_X7_hours_55 : Cond.instanceMethod yX3_passSound ∈ wsX7_hours := mb_X7_hours_wsX7_hours_r3 (List.mem_of_getElem? (i := 6) rfl)
theorem mx_X7_hours_56 : Cond.selects RX3 yX3_passSound yX3_passSound ∈ wsX7_hours := mb_X7_hours_wsX7_hours_r3 (List.mem_of_getElem? (i := 7) rfl)
theorem mx_X7_hours_57 : Cond.code yX3_passSound cX3_passSound 5 none ∈ wsX7_hours := mb_X7_hours_wsX7_hours_r3 (List.mem_of_getElem? (i := 8) rfl)
theorem mx_X7_hours_58 : Cond.methodLink RX3 63 Lib.Math.min.name ∈ wsX7_hours := mb_X7_hours_wsX7_hours_r3 (List.mem_of_getElem? (i := 9) rfl)
theorem mx_X7_hours_59 : Cond.methodLink RX3 58 yX3_isLoose ∈ wsX7_hours := mb_X7_hours_wsX7_hours_r3 (List.mem_of_getElem? (i := 10) rfl)
theorem mx_X7_hours_60 : Cond.instanceMethod yX3_isLoose ∈ wsX7_hours := mb_X7_hours_wsX7_hours_r3 (List.mem_of_getElem? (i := 11) rfl)
theorem mx_X7_hours_61 : Cond.selects RX3 yX3_isLoose yX3_isLoose ∈ wsX7_hours := mb_X7_hours_wsX7_hours_r3 (List.mem_of_getElem? (i := 12) rfl)
theorem mx_X7_hours_62 : Cond.code yX3_isLoose cX3_isLoose 2 (some .boolean) ∈ wsX7_hours := mb_X7_hours_wsX7_hours_r3 (List.mem_of_getElem? (i := 13) rfl)
theorem mx_X7_hours_63 : Cond.methodLink RX3 69 yX3_driftOf ∈ wsX7_hours := mb_X7_hours_wsX7_hours_r3 (List.mem_of_getElem? (i := 14) rfl)
theorem mx_X7_hours_64 : Cond.instanceMethod yX3_driftOf ∈ wsX7_hours := mb_X7_hours_wsX7_hours_r3 (List.mem_of_getElem? (i := 15) rfl)
theorem mx_X7_hours_65 : Cond.selects RX3 yX3_driftOf yX3_driftOf ∈ wsX7_hours := mb_X7_hours_wsX7_hours_r3 (List.mem_of_getElem? (i := 16) rfl)
theorem mx_X7_hours_66 : Cond.code yX3_driftOf cX3_driftOf 4 (some .int) ∈ wsX7_hours := mb_X7_hours_wsX7_hours_r3 (List.mem_of_getElem? (i := 17) rfl)
theorem mx_X7_hours_67 : Cond.methodLink RX3 72 yX3_loudBehindHour ∈ wsX7_hours := mb_X7_hours_wsX7_hours_r3 (List.mem_of_getElem? (i := 18) rfl)
theorem mx_X7_hours_68 : Cond.instanceMethod yX3_loudBehindHour ∈ wsX7_hours := mb_X7_hours_wsX7_hours_r3 (List.mem_of_getElem? (i := 19) rfl)
theorem mx_X7_hours_69 : Cond.selects RX3 yX3_loudBehindHour yX3_loudBehindHour ∈ wsX7_hours := mb_X7_hours_wsX7_hours_r3 (List.mem_of_getElem? (i := 20) rfl)
theorem mx_X7_hours_70 : Cond.code yX3_loudBehindHour cX3_loudBehindHour 2 (some .int) ∈ wsX7_hours := mb_X7_hours_wsX7_hours_r3 (List.mem_of_getElem? (i := 21) rfl)
theorem mx_X7_hours_71 : Cond.methodLink RX3 76 yX3_hasCell ∈ wsX7_hours := mb_X7_hours_wsX7_hours_r3 (List.mem_of_getElem? (i := 22) rfl)
theorem mx_X7_hours_72 : Cond.instanceMethod yX3_hasCell ∈ wsX7_hours := mb_X7_hours_wsX7_hours_r3 (List.mem_of_getElem? (i := 23) rfl)
theorem mb_X7_hours_wsX7_hours_r4 {w : Cond} (h : w ∈ wsX7_hours_r4) : w ∈ wsX7_hours := by unfold wsX7_hours; exact List.mem_cons_of_mem _ (List.mem_append_left _ (List.mem_append_left _ (List.mem_append_left _ (List.mem_append_right _ (List.mem_append_right _ (List.mem_append_right _ (h)))))))
theorem mx_X7_hours_73 : Cond.selects RX3 yX3_hasCell yX3_hasCell ∈ wsX7_hours := mb_X7_hours_wsX7_hours_r4 (List.mem_of_getElem? (i := 0) rfl)
theorem mx_X7_hours_74 : Cond.code yX3_hasCell cX3_hasCell 2 (some .boolean) ∈ wsX7_hours := mb_X7_hours_wsX7_hours_r4 (List.mem_of_getElem? (i := 1) rfl)
theorem mx_X7_hours_75 : Cond.methodLink RX3 79 yX3_letLoose ∈ wsX7_hours := mb_X7_hours_wsX7_hours_r4 (List.mem_of_getElem? (i := 2) rfl)
theorem mx_X7_hours_76 : Cond.instanceMethod yX3_letLoose ∈ wsX7_hours := mb_X7_hours_wsX7_hours_r4 (List.mem_of_getElem? (i := 3) rfl)
theorem mx_X7_hours_77 : Cond.selects RX3 yX3_letLoose yX3_letLoose ∈ wsX7_hours := mb_X7_hours_wsX7_hours_r4 (List.mem_of_getElem? (i := 4) rfl)
theorem mx_X7_hours_78 : Cond.code yX3_letLoose cX3_letLoose 4 none ∈ wsX7_hours := mb_X7_hours_wsX7_hours_r4 (List.mem_of_getElem? (i := 5) rfl)
theorem mx_X7_hours_79 : Cond.methodLink RX3 83 yX3_grindsAt ∈ wsX7_hours := mb_X7_hours_wsX7_hours_r4 (List.mem_of_getElem? (i := 6) rfl)
theorem mx_X7_hours_80 : Cond.instanceMethod yX3_grindsAt ∈ wsX7_hours := mb_X7_hours_wsX7_hours_r4 (List.mem_of_getElem? (i := 7) rfl)
theorem mx_X7_hours_81 : Cond.selects RX3 yX3_grindsAt yX3_grindsAt ∈ wsX7_hours := mb_X7_hours_wsX7_hours_r4 (List.mem_of_getElem? (i := 8) rfl)
theorem mx_X7_hours_82 : Cond.code yX3_grindsAt cX3_grindsAt 4 (some .boolean) ∈ wsX7_hours := mb_X7_hours_wsX7_hours_r4 (List.mem_of_getElem? (i := 9) rfl)
theorem ggX7_hours_X3_pass : GoodIn wsX7_hours wsX3_pass := goodIn_sub (by unfold wsX3_pass; exact List.forall_mem_cons.mpr ⟨mx_X7_hours_49, List.forall_mem_append.mpr ⟨List.forall_mem_append.mpr ⟨(by unfold wsX3_pass_r1; exact List.forall_mem_cons.mpr ⟨mx_X7_hours_36, List.forall_mem_cons.mpr ⟨mx_X7_hours_33, List.forall_mem_cons.mpr ⟨mx_X7_hours_50, List.forall_mem_cons.mpr ⟨mx_X7_hours_51, List.forall_mem_cons.mpr ⟨mx_X7_hours_52, List.forall_mem_cons.mpr ⟨mx_X7_hours_11, List.forall_mem_cons.mpr ⟨mx_X7_hours_53, List.forall_mem_cons.mpr ⟨mx_X7_hours_35, List.forall_mem_cons.mpr ⟨mx_X7_hours_37, List.forall_mem_cons.mpr ⟨mx_X7_hours_54, List.forall_mem_cons.mpr ⟨mx_X7_hours_55, List.forall_mem_cons.mpr ⟨mx_X7_hours_56, List.forall_mem_cons.mpr ⟨mx_X7_hours_57, List.forall_mem_cons.mpr ⟨mx_X7_hours_43, List.forall_mem_cons.mpr ⟨mx_X7_hours_45, List.forall_mem_cons.mpr ⟨mx_X7_hours_34, List.forall_mem_cons.mpr ⟨mx_X7_hours_58, List.forall_mem_cons.mpr ⟨mx_X7_hours_23, List.forall_mem_cons.mpr ⟨mx_X7_hours_24, List.forall_mem_cons.mpr ⟨mx_X7_hours_25, List.forall_mem_cons.mpr ⟨mx_X7_hours_59, List.forall_mem_cons.mpr ⟨mx_X7_hours_60, List.forall_mem_cons.mpr ⟨mx_X7_hours_61, List.forall_mem_cons.mpr ⟨mx_X7_hours_62, fun _ h_ => absurd h_ List.not_mem_nil⟩⟩⟩⟩⟩⟩⟩⟩⟩⟩⟩⟩⟩⟩⟩⟩⟩⟩⟩⟩⟩⟩⟩⟩), List.forall_mem_append.mpr ⟨(by unfold wsX3_pass_r2; exact List.forall_mem_cons.mpr ⟨mx_X7_hours_63, List.forall_mem_cons.mpr ⟨mx_X7_hours_64, List.forall_mem_cons.mpr ⟨mx_X7_hours_65, List.forall_mem_cons.mpr ⟨mx_X7_hours_66, List.forall_mem_cons.mpr ⟨mx_X7_hours_42, List.forall_mem_cons.mpr ⟨mx_X7_hours_67, List.forall_mem_cons.mpr ⟨mx_X7_hours_68, List.forall_mem_cons.mpr ⟨mx_X7_hours_69, List.forall_mem_cons.mpr ⟨mx_X7_hours_70, List.forall_mem_cons.mpr ⟨mx_X7_hours_44, List.forall_mem_cons.mpr ⟨mx_X7_hours_71, List.forall_mem_cons.mpr ⟨mx_X7_hours_72, List.forall_mem_cons.mpr ⟨mx_X7_hours_73, List.forall_mem_cons.mpr ⟨mx_X7_hours_74, List.forall_mem_cons.mpr ⟨mx_X7_hours_13, List.forall_mem_cons.mpr ⟨mx_X7_hours_75, List.forall_mem_cons.mpr ⟨mx_X7_hours_76, List.forall_mem_cons.mpr ⟨mx_X7_hours_77, List.forall_mem_cons.mpr ⟨mx_X7_hours_78, List.forall_mem_cons.mpr ⟨mx_X7_hours_79, List.forall_mem_cons.mpr ⟨mx_X7_hours_80, List.forall_mem_cons.mpr ⟨mx_X7_hours_81, List.forall_mem_cons.mpr ⟨mx_X7_hours_82, List.forall_mem_cons.mpr ⟨mx_X7_hours_32, fun _ h_ => absurd h_ List.not_mem_nil⟩⟩⟩⟩⟩⟩⟩⟩⟩⟩⟩⟩⟩⟩⟩⟩⟩⟩⟩⟩⟩⟩⟩⟩), (by unfold wsX3_pass_r3; exact List.forall_mem_cons.mpr ⟨mx_X7_hours_30, List.forall_mem_cons.mpr ⟨mx_X7_hours_31, fun _ h_ => absurd h_ List.not_mem_nil⟩⟩)⟩⟩, (fun _ h_ => mb_X7_hours_wsX30 h_)⟩⟩) (by decide +kernel)
theorem mx_X7_hours_46 : Cond.methodLink RX7 154 yX3_pass ∈ wsX7_hours := mb_X7_hours_wsX7_hours_r2 (List.mem_of_getElem? (i := 21) rfl)
theorem mx_X7_hours_47 : Cond.instanceMethod yX3_pass ∈ wsX7_hours := mb_X7_hours_wsX7_hours_r2 (List.mem_of_getElem? (i := 22) rfl)
theorem mx_X7_hours_48 : Cond.selects RX3 yX3_pass yX3_pass ∈ wsX7_hours := mb_X7_hours_wsX7_hours_r2 (List.mem_of_getElem? (i := 23) rfl)
theorem gX7_hours_X3_pass : GoodIn wsX7_hours (wsV RX7 154 RX3 yX3_pass wsX3_pass) := goodIn_app (goodIn_sub (List.forall_mem_cons.mpr ⟨mx_X7_hours_46, List.forall_mem_cons.mpr ⟨mx_X7_hours_47, List.forall_mem_cons.mpr ⟨mx_X7_hours_48, List.forall_mem_cons.mpr ⟨mx_X7_hours_11, fun _ h_ => absurd h_ List.not_mem_nil⟩⟩⟩⟩) (by decide +kernel)) ggX7_hours_X3_pass
theorem mb_X7_undo_wsX7_undo_r1 {w : Cond} (h : w ∈ wsX7_undo_r1) : w ∈ wsX7_undo := by unfold wsX7_undo; exact List.mem_cons_of_mem _ (List.mem_append_left _ (List.mem_append_left _ (List.mem_append_left _ (List.mem_append_left _ (h)))))
theorem mx_X7_undo_9 : Cond.code yX0_takeBack cX0_takeBack 2 none ∈ wsX7_undo := mb_X7_undo_wsX7_undo_r1 (List.mem_of_getElem? (i := 8) rfl)
theorem mx_X7_undo_10 : Cond.fieldLink RX0 16 "MillTalk$Acts" "size" "I" ∈ wsX7_undo := mb_X7_undo_wsX7_undo_r1 (List.mem_of_getElem? (i := 9) rfl)
theorem mx_X7_undo_11 : Cond.fieldLink RX0 20 "MillTalk$Acts" "next" "I" ∈ wsX7_undo := mb_X7_undo_wsX7_undo_r1 (List.mem_of_getElem? (i := 10) rfl)
theorem mx_X7_undo_12 : Cond.fieldLink RX0 11 "MillTalk$Acts" "before" "[LMillTalk$Level;" ∈ wsX7_undo := mb_X7_undo_wsX7_undo_r1 (List.mem_of_getElem? (i := 11) rfl)
theorem mx_X7_undo_13 : Cond.methodLink RX0 23 yX3_becomeLike ∈ wsX7_undo := mb_X7_undo_wsX7_undo_r1 (List.mem_of_getElem? (i := 12) rfl)
theorem mx_X7_undo_14 : Cond.instanceMethod yX3_becomeLike ∈ wsX7_undo := mb_X7_undo_wsX7_undo_r1 (List.mem_of_getElem? (i := 13) rfl)
theorem mx_X7_undo_15 : Cond.selects RX3 yX3_becomeLike yX3_becomeLike ∈ wsX7_undo := mb_X7_undo_wsX7_undo_r1 (List.mem_of_getElem? (i := 14) rfl)
theorem mx_X7_undo_16 : Cond.initialized RX3 ∈ wsX7_undo := mb_X7_undo_wsX7_undo_r1 (List.mem_of_getElem? (i := 15) rfl)
theorem mx_X7_undo_17 : Cond.code yX3_becomeLike cX3_becomeLike 2 none ∈ wsX7_undo := mb_X7_undo_wsX7_undo_r1 (List.mem_of_getElem? (i := 16) rfl)
theorem mx_X7_undo_18 : Cond.fieldLink RX3 27 "MillTalk$Level" "cells" "I" ∈ wsX7_undo := mb_X7_undo_wsX7_undo_r1 (List.mem_of_getElem? (i := 17) rfl)
theorem mx_X7_undo_19 : Cond.fieldLink RX3 31 "MillTalk$Level" "mill" "I" ∈ wsX7_undo := mb_X7_undo_wsX7_undo_r1 (List.mem_of_getElem? (i := 18) rfl)
theorem mx_X7_undo_20 : Cond.fieldLink RX3 34 "MillTalk$Level" "reach" "I" ∈ wsX7_undo := mb_X7_undo_wsX7_undo_r1 (List.mem_of_getElem? (i := 19) rfl)
theorem mx_X7_undo_21 : Cond.fieldLink RX3 37 "MillTalk$Level" "cap" "I" ∈ wsX7_undo := mb_X7_undo_wsX7_undo_r1 (List.mem_of_getElem? (i := 20) rfl)
theorem mx_X7_undo_22 : Cond.fieldLink RX3 40 "MillTalk$Level" "hour" "I" ∈ wsX7_undo := mb_X7_undo_wsX7_undo_r1 (List.mem_of_getElem? (i := 21) rfl)
theorem mx_X7_undo_23 : Cond.fieldLink RX3 43 "MillTalk$Level" "meal" "I" ∈ wsX7_undo := mb_X7_undo_wsX7_undo_r1 (List.mem_of_getElem? (i := 22) rfl)
theorem mx_X7_undo_24 : Cond.fieldLink RX3 46 "MillTalk$Level" "windCount" "I" ∈ wsX7_undo := mb_X7_undo_wsX7_undo_r1 (List.mem_of_getElem? (i := 23) rfl)
theorem mb_X7_undo_wsX7_undo_r2 {w : Cond} (h : w ∈ wsX7_undo_r2) : w ∈ wsX7_undo := by unfold wsX7_undo; exact List.mem_cons_of_mem _ (List.mem_append_left _ (List.mem_append_left _ (List.mem_append_left _ (List.mem_append_right _ (h)))))
theorem mx_X7_undo_25 : Cond.fieldLink RX3 49 "MillTalk$Level" "soundCount" "I" ∈ wsX7_undo := mb_X7_undo_wsX7_undo_r2 (List.mem_of_getElem? (i := 0) rfl)
theorem mx_X7_undo_26 : Cond.fieldLink RX3 9 "MillTalk$Level" "winds" "[I" ∈ wsX7_undo := mb_X7_undo_wsX7_undo_r2 (List.mem_of_getElem? (i := 1) rfl)
theorem mx_X7_undo_27 : Cond.methodLink RX3 52 arraycopyName ∈ wsX7_undo := mb_X7_undo_wsX7_undo_r2 (List.mem_of_getElem? (i := 2) rfl)
theorem mx_X7_undo_28 : Cond.native arraycopyName ∈ wsX7_undo := mb_X7_undo_wsX7_undo_r2 (List.mem_of_getElem? (i := 3) rfl)
theorem mx_X7_undo_29 : Cond.static arraycopyName ∈ wsX7_undo := mb_X7_undo_wsX7_undo_r2 (List.mem_of_getElem? (i := 4) rfl)
theorem mx_X7_undo_30 : Cond.initialized "java/lang/System" ∈ wsX7_undo := mb_X7_undo_wsX7_undo_r2 (List.mem_of_getElem? (i := 5) rfl)
theorem mx_X7_undo_31 : Cond.fieldLink RX3 15 "MillTalk$Level" "kinds" "[I" ∈ wsX7_undo := mb_X7_undo_wsX7_undo_r2 (List.mem_of_getElem? (i := 6) rfl)
theorem mx_X7_undo_32 : Cond.fieldLink RX3 18 "MillTalk$Level" "places" "[I" ∈ wsX7_undo := mb_X7_undo_wsX7_undo_r2 (List.mem_of_getElem? (i := 7) rfl)
theorem mx_X7_undo_33 : Cond.fieldLink RX3 21 "MillTalk$Level" "louds" "[I" ∈ wsX7_undo := mb_X7_undo_wsX7_undo_r2 (List.mem_of_getElem? (i := 8) rfl)
theorem mx_X7_undo_34 : Cond.fieldLink RX3 24 "MillTalk$Level" "hows" "[I" ∈ wsX7_undo := mb_X7_undo_wsX7_undo_r2 (List.mem_of_getElem? (i := 9) rfl)
theorem mb_X7_undo_wsX00 {w : Cond} (h : w ∈ wsX00) : w ∈ wsX7_undo := by unfold wsX7_undo; exact List.mem_cons_of_mem _ (List.mem_append_left _ (List.mem_append_right _ (h)))
theorem mb_X7_undo_wsX30 {w : Cond} (h : w ∈ wsX30) : w ∈ wsX7_undo := by unfold wsX7_undo; exact List.mem_cons_of_mem _ (List.mem_append_right _ (h))
theorem ggX7_undo_X0_takeBack : GoodIn wsX7_undo wsX0_takeBack := goodIn_sub (by unfold wsX0_takeBack; exact List.forall_mem_cons.mpr ⟨mx_X7_undo_9, List.forall_mem_append.mpr ⟨List.forall_mem_append.mpr ⟨List.forall_mem_append.mpr ⟨(by unfold wsX0_takeBack_r1; exact List.forall_mem_cons.mpr ⟨mx_X7_undo_10, List.forall_mem_cons.mpr ⟨mx_X7_undo_11, List.forall_mem_cons.mpr ⟨mx_X7_undo_12, List.forall_mem_cons.mpr ⟨mx_X7_undo_13, List.forall_mem_cons.mpr ⟨mx_X7_undo_14, List.forall_mem_cons.mpr ⟨mx_X7_undo_15, List.forall_mem_cons.mpr ⟨mx_X7_undo_16, List.forall_mem_cons.mpr ⟨mx_X7_undo_17, List.forall_mem_cons.mpr ⟨mx_X7_undo_18, List.forall_mem_cons.mpr ⟨mx_X7_undo_19, List.forall_mem_cons.mpr ⟨mx_X7_undo_20, List.forall_mem_cons.mpr ⟨mx_X7_undo_21, List.forall_mem_cons.mpr ⟨mx_X7_undo_22, List.forall_mem_cons.mpr ⟨mx_X7_undo_23, List.forall_mem_cons.mpr ⟨mx_X7_undo_24, List.forall_mem_cons.mpr ⟨mx_X7_undo_25, List.forall_mem_cons.mpr ⟨mx_X7_undo_26, List.forall_mem_cons.mpr ⟨mx_X7_undo_27, List.forall_mem_cons.mpr ⟨mx_X7_undo_28, List.forall_mem_cons.mpr ⟨mx_X7_undo_29, List.forall_mem_cons.mpr ⟨mx_X7_undo_30, List.forall_mem_cons.mpr ⟨mx_X7_undo_31, List.forall_mem_cons.mpr ⟨mx_X7_undo_32, List.forall_mem_cons.mpr ⟨mx_X7_undo_33, fun _ h_ => absurd h_ List.not_mem_nil⟩⟩⟩⟩⟩⟩⟩⟩⟩⟩⟩⟩⟩⟩⟩⟩⟩⟩⟩⟩⟩⟩⟩⟩), (by unfold wsX0_takeBack_r2; exact List.forall_mem_cons.mpr ⟨mx_X7_undo_34, fun _ h_ => absurd h_ List.not_mem_nil⟩)⟩, (fun _ h_ => mb_X7_undo_wsX00 h_)⟩, (fun _ h_ => mb_X7_undo_wsX30 h_)⟩⟩) (by decide +kernel)
theorem mx_X7_undo_5 : Cond.methodLink RX7 142 yX0_takeBack ∈ wsX7_undo := mb_X7_undo_wsX7_undo_r1 (List.mem_of_getElem? (i := 4) rfl)
theorem mx_X7_undo_6 : Cond.instanceMethod yX0_takeBack ∈ wsX7_undo := mb_X7_undo_wsX7_undo_r1 (List.mem_of_getElem? (i := 5) rfl)
theorem mx_X7_undo_7 : Cond.selects RX0 yX0_takeBack yX0_takeBack ∈ wsX7_undo := mb_X7_undo_wsX7_undo_r1 (List.mem_of_getElem? (i := 6) rfl)
theorem mx_X7_undo_8 : Cond.initialized RX0 ∈ wsX7_undo := mb_X7_undo_wsX7_undo_r1 (List.mem_of_getElem? (i := 7) rfl)
theorem gX7_undo_X0_takeBack : GoodIn wsX7_undo (wsV RX7 142 RX0 yX0_takeBack wsX0_takeBack) := goodIn_app (goodIn_sub (List.forall_mem_cons.mpr ⟨mx_X7_undo_5, List.forall_mem_cons.mpr ⟨mx_X7_undo_6, List.forall_mem_cons.mpr ⟨mx_X7_undo_7, List.forall_mem_cons.mpr ⟨mx_X7_undo_8, fun _ h_ => absurd h_ List.not_mem_nil⟩⟩⟩⟩) (by decide +kernel)) ggX7_undo_X0_takeBack
theorem i_X7_hours_X3 : ∀ w ∈ u_ws RX3 TX3 13, w ∈ wsX7_hours := fun _ h_ => mb_X7_hours_wsX30 h_
theorem mb_X7_hours_wsX70 {w : Cond} (h : w ∈ wsX70) : w ∈ wsX7_hours := by unfold wsX7_hours; exact List.mem_cons_of_mem _ (List.mem_append_left _ (List.mem_append_left _ (List.mem_append_right _ (h))))
theorem i_X7_hours_X7 : ∀ w ∈ u_ws RX7 TX7 11, w ∈ wsX7_hours := fun _ h_ => mb_X7_hours_wsX70 h_
theorem i_X7_undo_X0 : ∀ w ∈ u_ws RX0 TX0 3, w ∈ wsX7_undo := fun _ h_ => mb_X7_undo_wsX00 h_
theorem mb_X7_undo_wsX70 {w : Cond} (h : w ∈ wsX70) : w ∈ wsX7_undo := by unfold wsX7_undo; exact List.mem_cons_of_mem _ (List.mem_append_left _ (List.mem_append_left _ (List.mem_append_right _ (h))))
theorem i_X7_undo_X7 : ∀ w ∈ u_ws RX7 TX7 11, w ∈ wsX7_undo := fun _ h_ => mb_X7_undo_wsX70 h_
theorem mx_X7_undo_1 : Cond.fieldLink RX7 33 "MillTalk" "acts" "LMillTalk$Acts;" ∈ wsX7_undo := mb_X7_undo_wsX7_undo_r1 (List.mem_of_getElem? (i := 0) rfl)
theorem mx_X7_undo_2 : Cond.fieldLink RX7 138 "MillTalk$Acts" "size" "I" ∈ wsX7_undo := mb_X7_undo_wsX7_undo_r1 (List.mem_of_getElem? (i := 1) rfl)
theorem mx_X7_undo_4 : Cond.fieldLink RX7 26 "MillTalk" "now" "LMillTalk$Level;" ∈ wsX7_undo := mb_X7_undo_wsX7_undo_r1 (List.mem_of_getElem? (i := 3) rfl)
theorem mx_X7_undo_3 : Cond.constant RX7 141 (-1000002) ∈ wsX7_undo := mb_X7_undo_wsX7_undo_r1 (List.mem_of_getElem? (i := 2) rfl)
theorem mx_X7_hours_1 : Cond.fieldLink RX7 26 "MillTalk" "now" "LMillTalk$Level;" ∈ wsX7_hours := mb_X7_hours_wsX7_hours_r1 (List.mem_of_getElem? (i := 0) rfl)
theorem mx_X7_hours_2 : Cond.constant RX7 141 (-1000002) ∈ wsX7_hours := mb_X7_hours_wsX7_hours_r1 (List.mem_of_getElem? (i := 1) rfl)
theorem mx_X7_hours_3 : Cond.constant RX7 72 (-1000001) ∈ wsX7_hours := mb_X7_hours_wsX7_hours_r1 (List.mem_of_getElem? (i := 2) rfl)
theorem mx_X7_hours_4 : Cond.fieldLink RX7 148 "MillTalk$Level" "hour" "I" ∈ wsX7_hours := mb_X7_hours_wsX7_hours_r1 (List.mem_of_getElem? (i := 3) rfl)
theorem mx_X7_hours_6 : Cond.fieldLink RX7 33 "MillTalk" "acts" "LMillTalk$Acts;" ∈ wsX7_hours := mb_X7_hours_wsX7_hours_r1 (List.mem_of_getElem? (i := 5) rfl)
theorem mx_X7_hours_7 : Cond.fieldLink RX7 157 "MillTalk$Level" "meal" "I" ∈ wsX7_hours := mb_X7_hours_wsX7_hours_r1 (List.mem_of_getElem? (i := 6) rfl)
theorem mx_X7_hours_5 : Cond.constant RX7 109 (-1000003) ∈ wsX7_hours := mb_X7_hours_wsX7_hours_r1 (List.mem_of_getElem? (i := 4) rfl)
-- 33.mill3b
set_option maxHeartbeats 60000 in
theorem lf_X7_undo_1 {nv0 : Int32} {nv1 : Int32} {nv2 : Int32} {nv3 : Int32} {nv5 : Int32} {nhh : Nat} {nww : Nat} {nkk : Nat} {ng1 : Nat → Int32} {ng2 : Nat → Int32} {ng3 : Nat → Int32} {ng4 : Nat → Int32} {ng5 : Nat → Int32} {q : Nat} {az : Nat} {fb : Nat → Option Nat} {ad : Nat → Nat} {V : Nat → Nat → Int32} {G : Nat → Nat → Nat → Int32} {Vn_2 : Nat → Nat → Int32} {Gn_2 : Nat → Nat → Nat → Int32} {qn_2 : Nat} {zn_2 : Nat} {hn_2 : Nat} {wn_2 : Nat} {kn_2 : Nat} {v0n_2 : Int32} {v1n_2 : Int32} {v2n_2 : Int32} {v3n_2 : Int32} {v5n_2 : Int32} {g1n_2 : Nat → Int32} {g2n_2 : Nat → Int32} {g3n_2 : Nat → Int32} {g4n_2 : Nat → Int32} {g5n_2 : Nat → Int32} (nhb : nhh ≤ 999) (nwb : nww ≤ 6) (nkb : nkk ≤ 6) (hLv : okLv (nrm nv0 nv1 nv2 nv3 nhh nv5 nww nkk ng1 ng2 ng3 ng4 ng5)) (hfb : ∀ i : Nat, i < 24 → fb i = some (ad i)) (hok : ∀ i : Nat, i < 24 → okL (V i)) (hq : q < 24) (haz : az ≤ 24) (c_1 : ¬ (az = 0)) (hF_2_0 : (∀ i : Nat, i < 24 → okL (Vn_2 i))) (hF_2_1 : qn_2 < 24) (hF_2_2 : zn_2 ≤ 24) (hF_2_3 : hn_2 ≤ 999) (hF_2_4 : wn_2 ≤ 6) (hF_2_5 : kn_2 ≤ 6) (hF_2_6 : (0 < az → qn_2 = (q + 23) % 24 ∧ zn_2 = az - 1 ∧ (nrm v0n_2 v1n_2 v2n_2 v3n_2 hn_2 v5n_2 wn_2 kn_2 g1n_2 g2n_2 g3n_2 g4n_2 g5n_2) = nrV (V qn_2) (G qn_2))) (hF_2_7 : (az = 0 → zn_2 = 0 ∧ qn_2 = q ∧ (nrm v0n_2 v1n_2 v2n_2 v3n_2 hn_2 v5n_2 wn_2 kn_2 g1n_2 g2n_2 g3n_2 g4n_2 g5n_2) = (nrm nv0 nv1 nv2 nv3 nhh nv5 nww nkk ng1 ng2 ng3 ng4 ng5))) (hF_2_8 : (∀ i : Nat, i < 24 → nrV (Vn_2 i) (Gn_2 i) = nrV (V i) (G i))) : (nrm v0n_2 v1n_2 v2n_2 v3n_2 hn_2 v5n_2 wn_2 kn_2 g1n_2 g2n_2 g3n_2 g4n_2 g5n_2) = n_undo (nrm nv0 nv1 nv2 nv3 nhh nv5 nww nkk ng1 ng2 ng3 ng4 ng5) az (acX q az V G) := by
  first
  | with_reducible exact (undoX (r := (nrm nv0 nv1 nv2 nv3 nhh nv5 nww nkk ng1 ng2 ng3 ng4 ng5)) hq haz (Nat.pos_of_ne_zero c_1) (hF_2_6 (Nat.pos_of_ne_zero c_1)) hF_2_8).1
  | with_reducible exact (undoX (r := (nrm nv0 nv1 nv2 nv3 nhh nv5 nww nkk ng1 ng2 ng3 ng4 ng5)) hq haz (Nat.pos_of_ne_zero c_1) (hF_2_6 (Nat.pos_of_ne_zero c_1)) hF_2_8).2.1
  | with_reducible exact (undoX (r := (nrm nv0 nv1 nv2 nv3 nhh nv5 nww nkk ng1 ng2 ng3 ng4 ng5)) hq haz (Nat.pos_of_ne_zero c_1) (hF_2_6 (Nat.pos_of_ne_zero c_1)) hF_2_8).2.2.1
  | with_reducible exact (undoX (r := (nrm nv0 nv1 nv2 nv3 nhh nv5 nww nkk ng1 ng2 ng3 ng4 ng5)) hq haz (Nat.pos_of_ne_zero c_1) (hF_2_6 (Nat.pos_of_ne_zero c_1)) hF_2_8).2.2.2
  | with_reducible exact un_l c_1
  | with_reducible exact un_c c_1
  | with_reducible exact un_a c_1
  | omega
set_option maxHeartbeats 60000 in
theorem lf_X7_undo_2 {nv0 : Int32} {nv1 : Int32} {nv2 : Int32} {nv3 : Int32} {nv5 : Int32} {nhh : Nat} {nww : Nat} {nkk : Nat} {ng1 : Nat → Int32} {ng2 : Nat → Int32} {ng3 : Nat → Int32} {ng4 : Nat → Int32} {ng5 : Nat → Int32} {q : Nat} {az : Nat} {fb : Nat → Option Nat} {ad : Nat → Nat} {V : Nat → Nat → Int32} {G : Nat → Nat → Nat → Int32} {Vn_2 : Nat → Nat → Int32} {Gn_2 : Nat → Nat → Nat → Int32} {qn_2 : Nat} {zn_2 : Nat} {hn_2 : Nat} {wn_2 : Nat} {kn_2 : Nat} {v0n_2 : Int32} {v1n_2 : Int32} {v2n_2 : Int32} {v3n_2 : Int32} {v5n_2 : Int32} {g1n_2 : Nat → Int32} {g2n_2 : Nat → Int32} {g3n_2 : Nat → Int32} {g4n_2 : Nat → Int32} {g5n_2 : Nat → Int32} (nhb : nhh ≤ 999) (nwb : nww ≤ 6) (nkb : nkk ≤ 6) (hLv : okLv (nrm nv0 nv1 nv2 nv3 nhh nv5 nww nkk ng1 ng2 ng3 ng4 ng5)) (hfb : ∀ i : Nat, i < 24 → fb i = some (ad i)) (hok : ∀ i : Nat, i < 24 → okL (V i)) (hq : q < 24) (haz : az ≤ 24) (c_1 : ¬ (az = 0)) (hF_2_0 : (∀ i : Nat, i < 24 → okL (Vn_2 i))) (hF_2_1 : qn_2 < 24) (hF_2_2 : zn_2 ≤ 24) (hF_2_3 : hn_2 ≤ 999) (hF_2_4 : wn_2 ≤ 6) (hF_2_5 : kn_2 ≤ 6) (hF_2_6 : (0 < az → qn_2 = (q + 23) % 24 ∧ zn_2 = az - 1 ∧ (nrm v0n_2 v1n_2 v2n_2 v3n_2 hn_2 v5n_2 wn_2 kn_2 g1n_2 g2n_2 g3n_2 g4n_2 g5n_2) = nrV (V qn_2) (G qn_2))) (hF_2_7 : (az = 0 → zn_2 = 0 ∧ qn_2 = q ∧ (nrm v0n_2 v1n_2 v2n_2 v3n_2 hn_2 v5n_2 wn_2 kn_2 g1n_2 g2n_2 g3n_2 g4n_2 g5n_2) = (nrm nv0 nv1 nv2 nv3 nhh nv5 nww nkk ng1 ng2 ng3 ng4 ng5))) (hF_2_8 : (∀ i : Nat, i < 24 → nrV (Vn_2 i) (Gn_2 i) = nrV (V i) (G i))) : zn_2 = az - 1 := by
  first
  | with_reducible exact (undoX (r := (nrm nv0 nv1 nv2 nv3 nhh nv5 nww nkk ng1 ng2 ng3 ng4 ng5)) hq haz (Nat.pos_of_ne_zero c_1) (hF_2_6 (Nat.pos_of_ne_zero c_1)) hF_2_8).1
  | with_reducible exact (undoX (r := (nrm nv0 nv1 nv2 nv3 nhh nv5 nww nkk ng1 ng2 ng3 ng4 ng5)) hq haz (Nat.pos_of_ne_zero c_1) (hF_2_6 (Nat.pos_of_ne_zero c_1)) hF_2_8).2.1
  | with_reducible exact (undoX (r := (nrm nv0 nv1 nv2 nv3 nhh nv5 nww nkk ng1 ng2 ng3 ng4 ng5)) hq haz (Nat.pos_of_ne_zero c_1) (hF_2_6 (Nat.pos_of_ne_zero c_1)) hF_2_8).2.2.1
  | with_reducible exact (undoX (r := (nrm nv0 nv1 nv2 nv3 nhh nv5 nww nkk ng1 ng2 ng3 ng4 ng5)) hq haz (Nat.pos_of_ne_zero c_1) (hF_2_6 (Nat.pos_of_ne_zero c_1)) hF_2_8).2.2.2
  | with_reducible exact un_l c_1
  | with_reducible exact un_c c_1
  | with_reducible exact un_a c_1
  | omega
set_option maxHeartbeats 60000 in
theorem lf_X7_undo_3 {nv0 : Int32} {nv1 : Int32} {nv2 : Int32} {nv3 : Int32} {nv5 : Int32} {nhh : Nat} {nww : Nat} {nkk : Nat} {ng1 : Nat → Int32} {ng2 : Nat → Int32} {ng3 : Nat → Int32} {ng4 : Nat → Int32} {ng5 : Nat → Int32} {q : Nat} {az : Nat} {fb : Nat → Option Nat} {ad : Nat → Nat} {V : Nat → Nat → Int32} {G : Nat → Nat → Nat → Int32} {Vn_2 : Nat → Nat → Int32} {Gn_2 : Nat → Nat → Nat → Int32} {qn_2 : Nat} {zn_2 : Nat} {hn_2 : Nat} {wn_2 : Nat} {kn_2 : Nat} {v0n_2 : Int32} {v1n_2 : Int32} {v2n_2 : Int32} {v3n_2 : Int32} {v5n_2 : Int32} {g1n_2 : Nat → Int32} {g2n_2 : Nat → Int32} {g3n_2 : Nat → Int32} {g4n_2 : Nat → Int32} {g5n_2 : Nat → Int32} (nhb : nhh ≤ 999) (nwb : nww ≤ 6) (nkb : nkk ≤ 6) (hLv : okLv (nrm nv0 nv1 nv2 nv3 nhh nv5 nww nkk ng1 ng2 ng3 ng4 ng5)) (hfb : ∀ i : Nat, i < 24 → fb i = some (ad i)) (hok : ∀ i : Nat, i < 24 → okL (V i)) (hq : q < 24) (haz : az ≤ 24) (c_1 : ¬ (az = 0)) (hF_2_0 : (∀ i : Nat, i < 24 → okL (Vn_2 i))) (hF_2_1 : qn_2 < 24) (hF_2_2 : zn_2 ≤ 24) (hF_2_3 : hn_2 ≤ 999) (hF_2_4 : wn_2 ≤ 6) (hF_2_5 : kn_2 ≤ 6) (hF_2_6 : (0 < az → qn_2 = (q + 23) % 24 ∧ zn_2 = az - 1 ∧ (nrm v0n_2 v1n_2 v2n_2 v3n_2 hn_2 v5n_2 wn_2 kn_2 g1n_2 g2n_2 g3n_2 g4n_2 g5n_2) = nrV (V qn_2) (G qn_2))) (hF_2_7 : (az = 0 → zn_2 = 0 ∧ qn_2 = q ∧ (nrm v0n_2 v1n_2 v2n_2 v3n_2 hn_2 v5n_2 wn_2 kn_2 g1n_2 g2n_2 g3n_2 g4n_2 g5n_2) = (nrm nv0 nv1 nv2 nv3 nhh nv5 nww nkk ng1 ng2 ng3 ng4 ng5))) (hF_2_8 : (∀ i : Nat, i < 24 → nrV (Vn_2 i) (Gn_2 i) = nrV (V i) (G i))) : acX qn_2 zn_2 Vn_2 Gn_2 = dpA az (acX q az V G) := by
  first
  | with_reducible exact (undoX (r := (nrm nv0 nv1 nv2 nv3 nhh nv5 nww nkk ng1 ng2 ng3 ng4 ng5)) hq haz (Nat.pos_of_ne_zero c_1) (hF_2_6 (Nat.pos_of_ne_zero c_1)) hF_2_8).1
  | with_reducible exact (undoX (r := (nrm nv0 nv1 nv2 nv3 nhh nv5 nww nkk ng1 ng2 ng3 ng4 ng5)) hq haz (Nat.pos_of_ne_zero c_1) (hF_2_6 (Nat.pos_of_ne_zero c_1)) hF_2_8).2.1
  | with_reducible exact (undoX (r := (nrm nv0 nv1 nv2 nv3 nhh nv5 nww nkk ng1 ng2 ng3 ng4 ng5)) hq haz (Nat.pos_of_ne_zero c_1) (hF_2_6 (Nat.pos_of_ne_zero c_1)) hF_2_8).2.2.1
  | with_reducible exact (undoX (r := (nrm nv0 nv1 nv2 nv3 nhh nv5 nww nkk ng1 ng2 ng3 ng4 ng5)) hq haz (Nat.pos_of_ne_zero c_1) (hF_2_6 (Nat.pos_of_ne_zero c_1)) hF_2_8).2.2.2
  | with_reducible exact un_l c_1
  | with_reducible exact un_c c_1
  | with_reducible exact un_a c_1
  | omega
set_option maxHeartbeats 60000 in
theorem lf_X7_undo_4 {nv0 : Int32} {nv1 : Int32} {nv2 : Int32} {nv3 : Int32} {nv5 : Int32} {nhh : Nat} {nww : Nat} {nkk : Nat} {ng1 : Nat → Int32} {ng2 : Nat → Int32} {ng3 : Nat → Int32} {ng4 : Nat → Int32} {ng5 : Nat → Int32} {q : Nat} {az : Nat} {fb : Nat → Option Nat} {ad : Nat → Nat} {V : Nat → Nat → Int32} {G : Nat → Nat → Nat → Int32} {Vn_2 : Nat → Nat → Int32} {Gn_2 : Nat → Nat → Nat → Int32} {qn_2 : Nat} {zn_2 : Nat} {hn_2 : Nat} {wn_2 : Nat} {kn_2 : Nat} {v0n_2 : Int32} {v1n_2 : Int32} {v2n_2 : Int32} {v3n_2 : Int32} {v5n_2 : Int32} {g1n_2 : Nat → Int32} {g2n_2 : Nat → Int32} {g3n_2 : Nat → Int32} {g4n_2 : Nat → Int32} {g5n_2 : Nat → Int32} (nhb : nhh ≤ 999) (nwb : nww ≤ 6) (nkb : nkk ≤ 6) (hLv : okLv (nrm nv0 nv1 nv2 nv3 nhh nv5 nww nkk ng1 ng2 ng3 ng4 ng5)) (hfb : ∀ i : Nat, i < 24 → fb i = some (ad i)) (hok : ∀ i : Nat, i < 24 → okL (V i)) (hq : q < 24) (haz : az ≤ 24) (c_1 : ¬ (az = 0)) (hF_2_0 : (∀ i : Nat, i < 24 → okL (Vn_2 i))) (hF_2_1 : qn_2 < 24) (hF_2_2 : zn_2 ≤ 24) (hF_2_3 : hn_2 ≤ 999) (hF_2_4 : wn_2 ≤ 6) (hF_2_5 : kn_2 ≤ 6) (hF_2_6 : (0 < az → qn_2 = (q + 23) % 24 ∧ zn_2 = az - 1 ∧ (nrm v0n_2 v1n_2 v2n_2 v3n_2 hn_2 v5n_2 wn_2 kn_2 g1n_2 g2n_2 g3n_2 g4n_2 g5n_2) = nrV (V qn_2) (G qn_2))) (hF_2_7 : (az = 0 → zn_2 = 0 ∧ qn_2 = q ∧ (nrm v0n_2 v1n_2 v2n_2 v3n_2 hn_2 v5n_2 wn_2 kn_2 g1n_2 g2n_2 g3n_2 g4n_2 g5n_2) = (nrm nv0 nv1 nv2 nv3 nhh nv5 nww nkk ng1 ng2 ng3 ng4 ng5))) (hF_2_8 : (∀ i : Nat, i < 24 → nrV (Vn_2 i) (Gn_2 i) = nrV (V i) (G i))) : (nI zn_2) = (a_undo az) := by
  first
  | with_reducible exact (undoX (r := (nrm nv0 nv1 nv2 nv3 nhh nv5 nww nkk ng1 ng2 ng3 ng4 ng5)) hq haz (Nat.pos_of_ne_zero c_1) (hF_2_6 (Nat.pos_of_ne_zero c_1)) hF_2_8).1
  | with_reducible exact (undoX (r := (nrm nv0 nv1 nv2 nv3 nhh nv5 nww nkk ng1 ng2 ng3 ng4 ng5)) hq haz (Nat.pos_of_ne_zero c_1) (hF_2_6 (Nat.pos_of_ne_zero c_1)) hF_2_8).2.1
  | with_reducible exact (undoX (r := (nrm nv0 nv1 nv2 nv3 nhh nv5 nww nkk ng1 ng2 ng3 ng4 ng5)) hq haz (Nat.pos_of_ne_zero c_1) (hF_2_6 (Nat.pos_of_ne_zero c_1)) hF_2_8).2.2.1
  | with_reducible exact (undoX (r := (nrm nv0 nv1 nv2 nv3 nhh nv5 nww nkk ng1 ng2 ng3 ng4 ng5)) hq haz (Nat.pos_of_ne_zero c_1) (hF_2_6 (Nat.pos_of_ne_zero c_1)) hF_2_8).2.2.2
  | with_reducible exact un_l c_1
  | with_reducible exact un_c c_1
  | with_reducible exact un_a c_1
  | omega
set_option maxHeartbeats 60000 in
theorem lf_X7_undo_5 {nv0 : Int32} {nv1 : Int32} {nv2 : Int32} {nv3 : Int32} {nv5 : Int32} {nhh : Nat} {nww : Nat} {nkk : Nat} {ng1 : Nat → Int32} {ng2 : Nat → Int32} {ng3 : Nat → Int32} {ng4 : Nat → Int32} {ng5 : Nat → Int32} {q : Nat} {az : Nat} {fb : Nat → Option Nat} {ad : Nat → Nat} {V : Nat → Nat → Int32} {G : Nat → Nat → Nat → Int32} (nhb : nhh ≤ 999) (nwb : nww ≤ 6) (nkb : nkk ≤ 6) (hLv : okLv (nrm nv0 nv1 nv2 nv3 nhh nv5 nww nkk ng1 ng2 ng3 ng4 ng5)) (hfb : ∀ i : Nat, i < 24 → fb i = some (ad i)) (hok : ∀ i : Nat, i < 24 → okL (V i)) (hq : q < 24) (haz : az ≤ 24) (c_1 : az = 0) : (nrm nv0 nv1 nv2 nv3 nhh nv5 nww nkk ng1 ng2 ng3 ng4 ng5) = n_undo (nrm nv0 nv1 nv2 nv3 nhh nv5 nww nkk ng1 ng2 ng3 ng4 ng5) az (acX q az V G) := by
  first
  | with_reducible exact un_l c_1
  | with_reducible exact un_c c_1
  | with_reducible exact un_a c_1
  | omega
set_option maxHeartbeats 60000 in
theorem lf_X7_undo_6 {nv0 : Int32} {nv1 : Int32} {nv2 : Int32} {nv3 : Int32} {nv5 : Int32} {nhh : Nat} {nww : Nat} {nkk : Nat} {ng1 : Nat → Int32} {ng2 : Nat → Int32} {ng3 : Nat → Int32} {ng4 : Nat → Int32} {ng5 : Nat → Int32} {q : Nat} {az : Nat} {fb : Nat → Option Nat} {ad : Nat → Nat} {V : Nat → Nat → Int32} (nhb : nhh ≤ 999) (nwb : nww ≤ 6) (nkb : nkk ≤ 6) (hLv : okLv (nrm nv0 nv1 nv2 nv3 nhh nv5 nww nkk ng1 ng2 ng3 ng4 ng5)) (hfb : ∀ i : Nat, i < 24 → fb i = some (ad i)) (hok : ∀ i : Nat, i < 24 → okL (V i)) (hq : q < 24) (haz : az ≤ 24) (c_1 : az = 0) : az = az - 1 := by
  first
  | with_reducible exact un_l c_1
  | with_reducible exact un_c c_1
  | with_reducible exact un_a c_1
  | omega
set_option maxHeartbeats 60000 in
theorem lf_X7_undo_7 {nv0 : Int32} {nv1 : Int32} {nv2 : Int32} {nv3 : Int32} {nv5 : Int32} {nhh : Nat} {nww : Nat} {nkk : Nat} {ng1 : Nat → Int32} {ng2 : Nat → Int32} {ng3 : Nat → Int32} {ng4 : Nat → Int32} {ng5 : Nat → Int32} {q : Nat} {az : Nat} {fb : Nat → Option Nat} {ad : Nat → Nat} {V : Nat → Nat → Int32} {G : Nat → Nat → Nat → Int32} (nhb : nhh ≤ 999) (nwb : nww ≤ 6) (nkb : nkk ≤ 6) (hLv : okLv (nrm nv0 nv1 nv2 nv3 nhh nv5 nww nkk ng1 ng2 ng3 ng4 ng5)) (hfb : ∀ i : Nat, i < 24 → fb i = some (ad i)) (hok : ∀ i : Nat, i < 24 → okL (V i)) (hq : q < 24) (haz : az ≤ 24) (c_1 : az = 0) : acX q az V G = dpA az (acX q az V G) := by
  first
  | with_reducible exact un_l c_1
  | with_reducible exact un_c c_1
  | with_reducible exact un_a c_1
  | omega
set_option maxHeartbeats 60000 in
theorem lf_X7_undo_8 {nv0 : Int32} {nv1 : Int32} {nv2 : Int32} {nv3 : Int32} {nv5 : Int32} {nhh : Nat} {nww : Nat} {nkk : Nat} {ng1 : Nat → Int32} {ng2 : Nat → Int32} {ng3 : Nat → Int32} {ng4 : Nat → Int32} {ng5 : Nat → Int32} {q : Nat} {az : Nat} {fb : Nat → Option Nat} {ad : Nat → Nat} {V : Nat → Nat → Int32} (nhb : nhh ≤ 999) (nwb : nww ≤ 6) (nkb : nkk ≤ 6) (hLv : okLv (nrm nv0 nv1 nv2 nv3 nhh nv5 nww nkk ng1 ng2 ng3 ng4 ng5)) (hfb : ∀ i : Nat, i < 24 → fb i = some (ad i)) (hok : ∀ i : Nat, i < 24 → okL (V i)) (hq : q < 24) (haz : az ≤ 24) (c_1 : az = 0) : (-1000002) = (a_undo az) := by
  first
  | with_reducible exact un_l c_1
  | with_reducible exact un_c c_1
  | with_reducible exact un_a c_1
  | omega
set_option maxHeartbeats 4000000 in
set_option maxRecDepth 100000 in
theorem r_X7_undo (l : Launch) (dC : Nat → ClassId) (dI : Nat → Nat → Nat) (cI cZ cL cJ : ClassId) (sz : Nat) (x : Nat) (ro : Nat) (ta : Nat) (no : Nat) (ac : Nat) (im : Nat) (tr : Nat) (pl : Nat) (cs : Nat) (ak : Nat) (xf : Int32) (xg : Int32) (nv0 : Int32) (nv1 : Int32) (nv2 : Int32) (nv3 : Int32) (nv5 : Int32) (nhh : Nat) (nww : Nat) (nkk : Nat) (nb1 : Nat) (nb2 : Nat) (nb3 : Nat) (nb4 : Nat) (nb5 : Nat) (ng1 : Nat → Int32) (ng2 : Nat → Int32) (ng3 : Nat → Int32) (ng4 : Nat → Int32) (ng5 : Nat → Int32) (be : Nat) (q : Nat) (az : Nat) (fb : Nat → Option Nat) (ad : Nat → Nat) (bd : Nat → Nat → Nat) (V : Nat → Nat → Int32) (G : Nat → Nat → Nat → Int32) (nhb : nhh ≤ 999) (nwb : nww ≤ 6) (nkb : nkk ≤ 6) (hLv : okLv (nrm nv0 nv1 nv2 nv3 nhh nv5 nww nkk ng1 ng2 ng3 ng4 ng5)) (hfb : ∀ i : Nat, i < 24 → fb i = some (ad i)) (hok : ∀ i : Nat, i < 24 → okL (V i)) (hq : q < 24) (haz : az ≤ 24) : Met l yX7_undo wsX7_undo ({ frames := 3, cells := 0, slots := 0, locals := 122 }) (va_Pc [.ref x] (fun U => U.heap.size = sz ∧ va_P (dC, dI) vwCl (([(xo_7_rrrrrrrrrii x ro ta no ac im tr pl cs ak xf xg), (xo_3_iiiiiiiirrrrr no nv0 nv1 nv2 nv3 (nI nhh) nv5 (nI nww) (nI nkk) nb1 nb2 nb3 nb4 nb5), (xI nb1 cI 6 ng1), (xI nb2 cI 6 ng2), (xI nb3 cI 6 ng3), (xI nb4 cI 6 ng4), (xI nb5 cI 6 ng5), (xo_0_rii ac be (nI q) (nI az)), (xJ be cL 24 fb)] : va_W) ++ lvs cI 24 ad bd V G) U.heap ∧ va_K (dC, dI) vwCl [(cI, .int), (cZ, .boolean), (cL, .object RX3), (cJ, .array .int)] U ∧ va_D (fun _ => True) (([(xo_7_rrrrrrrrrii x ro ta no ac im tr pl cs ak xf xg), (xo_3_iiiiiiiirrrrr no nv0 nv1 nv2 nv3 (nI nhh) nv5 (nI nww) (nI nkk) nb1 nb2 nb3 nb4 nb5), (xI nb1 cI 6 ng1), (xI nb2 cI 6 ng2), (xI nb3 cI 6 ng3), (xI nb4 cI 6 ng4), (xI nb5 cI 6 ng5), (xo_0_rii ac be (nI q) (nI az)), (xJ be cL 24 fb)] : va_W) ++ lvs cI 24 ad bd V G))) (va_Qi (fun r (_ : Unit) => r = (a_undo az)) (fun (_ : Unit) t => ∃ (Vn : Nat → Nat → Int32) (Gn : Nat → Nat → Nat → Int32) (nv0n : Int32) (nv1n : Int32) (nv2n : Int32) (nv3n : Int32) (nv5n : Int32) (ng1n : Nat → Int32) (ng2n : Nat → Int32) (ng3n : Nat → Int32) (ng4n : Nat → Int32) (ng5n : Nat → Int32) (nhn : Nat) (nwn : Nat) (nkn : Nat) (qn : Nat) (azn : Nat), va_P (dC, dI) vwCl (([(xo_7_rrrrrrrrrii x ro ta no ac im tr pl cs ak xf xg), (xo_3_iiiiiiiirrrrr no nv0n nv1n nv2n nv3n (nI nhn) nv5n (nI nwn) (nI nkn) nb1 nb2 nb3 nb4 nb5), (xI nb1 cI 6 ng1n), (xI nb2 cI 6 ng2n), (xI nb3 cI 6 ng3n), (xI nb4 cI 6 ng4n), (xI nb5 cI 6 ng5n), (xo_0_rii ac be (nI qn) (nI azn)), (xJ be cL 24 fb)] : va_W) ++ lvs cI 24 ad bd Vn Gn) t.heap ∧ va_D (va_A (([(xo_7_rrrrrrrrrii x ro ta no ac im tr pl cs ak xf xg), (xo_3_iiiiiiiirrrrr no nv0 nv1 nv2 nv3 (nI nhh) nv5 (nI nww) (nI nkk) nb1 nb2 nb3 nb4 nb5), (xI nb1 cI 6 ng1), (xI nb2 cI 6 ng2), (xI nb3 cI 6 ng3), (xI nb4 cI 6 ng4), (xI nb5 cI 6 ng5), (xo_0_rii ac be (nI q) (nI az)), (xJ be cL 24 fb)] : va_W) ++ lvs cI 24 ad bd V G) sz) (([(xo_7_rrrrrrrrrii x ro ta no ac im tr pl cs ak xf xg), (xo_3_iiiiiiiirrrrr no nv0n nv1n nv2n nv3n (nI nhn) nv5n (nI nwn) (nI nkn) nb1 nb2 nb3 nb4 nb5), (xI nb1 cI 6 ng1n), (xI nb2 cI 6 ng2n), (xI nb3 cI 6 ng3n), (xI nb4 cI 6 ng4n), (xI nb5 cI 6 ng5n), (xo_0_rii ac be (nI qn) (nI azn)), (xJ be cL 24 fb)] : va_W) ++ lvs cI 24 ad bd Vn Gn) ∧ (∀ i : Nat, i < 24 → okL (Vn i)) ∧ qn < 24 ∧ azn ≤ 24 ∧ nhn ≤ 999 ∧ nwn ≤ 6 ∧ nkn ≤ 6 ∧ (nrm nv0n nv1n nv2n nv3n nhn nv5n nwn nkn ng1n ng2n ng3n ng4n ng5n) = n_undo (nrm nv0 nv1 nv2 nv3 nhh nv5 nww nkk ng1 ng2 ng3 ng4 ng5) az (acX q az V G) ∧ azn = az - 1 ∧ acX qn azn Vn Gn = dpA az (acX q az V G)) (va_A (([(xo_7_rrrrrrrrrii x ro ta no ac im tr pl cs ak xf xg), (xo_3_iiiiiiiirrrrr no nv0 nv1 nv2 nv3 (nI nhh) nv5 (nI nww) (nI nkk) nb1 nb2 nb3 nb4 nb5), (xI nb1 cI 6 ng1), (xI nb2 cI 6 ng2), (xI nb3 cI 6 ng3), (xI nb4 cI 6 ng4), (xI nb5 cI 6 ng5), (xo_0_rii ac be (nI q) (nI az)), (xJ be cL 24 fb)] : va_W) ++ lvs cI 24 ad bd V G) sz)) 0 0 (va_A (([(xo_7_rrrrrrrrrii x ro ta no ac im tr pl cs ak xf xg), (xo_3_iiiiiiiirrrrr no nv0 nv1 nv2 nv3 (nI nhh) nv5 (nI nww) (nI nkk) nb1 nb2 nb3 nb4 nb5), (xI nb1 cI 6 ng1), (xI nb2 cI 6 ng2), (xI nb3 cI 6 ng3), (xI nb4 cI 6 ng4), (xI nb5 cI 6 ng5), (xo_0_rii ac be (nI q) (nI az)), (xJ be cL 24 fb)] : va_W) ++ lvs cI 24 ad bd V G) sz) := by
  refine Met.ofW (cc := cX7_undo) (maxL := 1) (ret := (some .int)) (by decide) rfl ?_
  intro p e s m args below meth c s₁ B hml hv
  obtain ⟨rfl, hsz, hP, hK, hD0⟩ := hv
  have hx := B.exec
  have hb := B.bytes
  have hr := B.returns
  have hts := atoms_spec (ws := wsX7_undo) B.pre
  have hown : s.vm.findClass RX7 = some m.cls := findClass_of_methodNamed B.named
  have hlocks := B.notSynchronized
  subst hsz
  have hD := hD0.self (sz := s.heap.size)
  generalize hAe : va_A (([(xo_7_rrrrrrrrrii x ro ta no ac im tr pl cs ak xf xg), (xo_3_iiiiiiiirrrrr no nv0 nv1 nv2 nv3 (nI nhh) nv5 (nI nww) (nI nkk) nb1 nb2 nb3 nb4 nb5), (xI nb1 cI 6 ng1), (xI nb2 cI 6 ng2), (xI nb3 cI 6 ng3), (xI nb4 cI 6 ng4), (xI nb5 cI 6 ng5), (xo_0_rii ac be (nI q) (nI az)), (xJ be cL 24 fb)] : va_W) ++ lvs cI 24 ad bd V G) s.heap.size = A at hD ⊢
  have hA : ∀ q : Nat, s.heap.size ≤ q → A q := fun q h => by rw [← hAe]; exact Or.inr h
  have hS : va_S A s.heap s.heap [] := va_S.rf
  have hP : va_P (dC, dI) vwCl (([(xo_7_rrrrrrrrrii x ro ta no ac im tr pl cs ak xf xg), (xo_3_iiiiiiiirrrrr no nv0 nv1 nv2 nv3 (nI nhh) nv5 (nI nww) (nI nkk) nb1 nb2 nb3 nb4 nb5), (xI nb1 cI 6 ng1), (xI nb2 cI 6 ng2), (xI nb3 cI 6 ng3), (xI nb4 cI 6 ng4), (xI nb5 cI 6 ng5), (xo_0_rii ac be (nI q) (nI az)), (xJ be cL 24 fb)] : va_W) ++ lvs cI 24 ad bd V G) s.heap := hP
  have hl := lv_entry ([.ref x]) (n := 1) (Nat.le_of_ble_eq_true rfl)
  rw [lg_entry_eq]
  generalize (lg_sl ([.ref x]) ++ List.replicate (1 - (lg_sl ([.ref x])).length) Slot.unset).toArray = ls at hl ⊢
  have hl : lv_has ls 1 [(0, .ref x)] := hl
  refine lv_aload_n hx hb dX7_undo_0 rfl (lv_at hl 0 rfl) ?_
  refine va_get (D := (dC, dI)) (ci := 7) (v := .ref ac) (C := RX7) (T := TX7) (N := 11) hx hb hts i_X7_undo_X7 hown hK hP 0 rfl rfl 3 (by decide) (hts _ mx_X7_undo_1) (fun _ h9 => h9) rfl dX7_undo_1 ?_
  refine va_get (D := (dC, dI)) (ci := 0) (v := .int (nI az)) (C := RX0) (T := TX0) (N := 3) hx hb hts i_X7_undo_X0 hown hK hP 7 rfl rfl 2 (by decide) (hts _ mx_X7_undo_2) (fun _ h9 => h9) rfl dX7_undo_4 ?_
  refine lv_if_ne (tgt := 13) hx hb dX7_undo_7 (by decide) (fun c_1 => ?_) (fun c_1 => ?_)
  · have c_1 : ¬ (az = 0) := fun q_ => c_1 ((nI_eq (a := az) (b := 0) (by omega) (by omega)).mpr q_)
    refine lv_aload_n hx hb dX7_undo_13 rfl (lv_at hl 0 rfl) ?_
    refine va_get (D := (dC, dI)) (ci := 7) (v := .ref ac) (C := RX7) (T := TX7) (N := 11) hx hb hts i_X7_undo_X7 hown hK hP 0 rfl rfl 3 (by decide) (hts _ mx_X7_undo_1) (fun _ h9 => h9) rfl dX7_undo_14 ?_
    refine lv_aload_n hx hb dX7_undo_17 rfl (lv_at hl 0 rfl) ?_
    refine va_get (D := (dC, dI)) (ci := 7) (v := .ref no) (C := RX7) (T := TX7) (N := 11) hx hb hts i_X7_undo_X7 hown hK hP 0 rfl rfl 2 (by decide) (hts _ mx_X7_undo_4) (fun _ h9 => h9) rfl dX7_undo_18 ?_
    have hc_2 := cutP (cx := [(xo_0_rii ac be (nI q) (nI az)), (xJ be cL 24 fb), (xo_3_iiiiiiiirrrrr no nv0 nv1 nv2 nv3 (nI nhh) nv5 (nI nww) (nI nkk) nb1 nb2 nb3 nb4 nb5), (xI nb1 cI 6 ng1), (xI nb2 cI 6 ng2), (xI nb3 cI 6 ng3), (xI nb4 cI 6 ng4), (xI nb5 cI 6 ng5)]) hP hD hS hA [7, 8, 1, 2, 3, 4, 5, 6] (by decide +kernel) rfl
    refine va_callv (va_runV (As := [.ref no]) (rest := []) ⟨hx, hb, hml, hown, hts⟩ (r_X0_takeBack l dC dI cI cZ cL cJ s.heap.size ac be q az fb ad bd V G no nv0 nv1 nv2 nv3 nv5 nhh nww nkk nb1 nb2 nb3 nb4 nb5 ng1 ng2 ng3 ng4 ng5 (hfb) (hok) (by omega) (by omega) (by omega) (by omega) (by omega)) (cwV 1 hts gX7_undo_X0_takeBack rfl rfl rfl (by decide +kernel) ⟨Nat.le_of_ble_eq_true rfl, Nat.le_of_ble_eq_true rfl⟩) (pvW 0 7 hK hP rfl rfl hc_2) rfl rfl hl.1 rfl (lv_room (Nat.le_of_ble_eq_true rfl)) dX7_undo_21 ⟨Nat.le_of_ble_eq_true rfl, Nat.le_of_ble_eq_true rfl⟩) hS (fun q _ h => hc_2.2.2 q h) hc_2.2.2 (fun u_2 t_2 H1 locs ht hvm h_2 hB hz1 hk1 hS => ?_)
    refine xl_17_11 hB (fun Vn_2 Gn_2 qn_2 zn_2 hn_2 wn_2 kn_2 v0n_2 v1n_2 v2n_2 v3n_2 v5n_2 g1n_2 g2n_2 g3n_2 g4n_2 g5n_2 hP1 hD1 hF_2_0 hF_2_1 hF_2_2 hF_2_3 hF_2_4 hF_2_5 hF_2_6 hF_2_7 hF_2_8 => ?_)
    clear hB
    rw [ht] at hP1
    obtain ⟨hP, hD⟩ := va_joinP (wr := [(xo_7_rrrrrrrrrii x ro ta no ac im tr pl cs ak xf xg)]) (rx := [(xo_0_rii ac be (nI qn_2) (nI zn_2)), (xJ be cL 24 fb), (xo_3_iiiiiiiirrrrr no v0n_2 v1n_2 v2n_2 v3n_2 (nI hn_2) v5n_2 (nI wn_2) (nI kn_2) nb1 nb2 nb3 nb4 nb5), (xI nb1 cI 6 g1n_2), (xI nb2 cI 6 g2n_2), (xI nb3 cI 6 g3n_2), (xI nb4 cI 6 g4n_2), (xI nb5 cI 6 g5n_2)]) (pl1 := lvs cI 24 ad bd Vn_2 Gn_2) hP hD [7, 8, 1, 2, 3, 4, 5, 6] [0] rfl rfl (by decide +kernel) (by decide +kernel) hk1 hc_2.2.2 hP1 hD1
    generalize H1 = H at hP hS ⊢
    have hP : va_P (dC, dI) vwCl (([(xo_7_rrrrrrrrrii x ro ta no ac im tr pl cs ak xf xg), (xo_0_rii ac be (nI qn_2) (nI zn_2)), (xJ be cL 24 fb), (xo_3_iiiiiiiirrrrr no v0n_2 v1n_2 v2n_2 v3n_2 (nI hn_2) v5n_2 (nI wn_2) (nI kn_2) nb1 nb2 nb3 nb4 nb5), (xI nb1 cI 6 g1n_2), (xI nb2 cI 6 g2n_2), (xI nb3 cI 6 g3n_2), (xI nb4 cI 6 g4n_2), (xI nb5 cI 6 g5n_2)] : va_W) ++ lvs cI 24 ad bd Vn_2 Gn_2) H := hP
    have hD := dto hP hD
    refine lv_aload_n hx hb dX7_undo_24 rfl (lv_at hl 0 rfl) ?_
    refine va_get (D := (dC, dI)) (ci := 7) (v := .ref ac) (C := RX7) (T := TX7) (N := 11) hx hb hts i_X7_undo_X7 hown hK hP 0 rfl rfl 3 (by decide) (hts _ mx_X7_undo_1) (fun _ h9 => h9) rfl dX7_undo_25 ?_
    refine va_get (D := (dC, dI)) (ci := 0) (v := .int (nI zn_2)) (C := RX0) (T := TX0) (N := 3) hx hb hts i_X7_undo_X0 hown hK hP 1 rfl rfl 2 (by decide) (hts _ mx_X7_undo_2) (fun _ h9 => h9) rfl dX7_undo_28 ?_
    have hX9 := cut2P (cx := [(xo_7_rrrrrrrrrii x ro ta no ac im tr pl cs ak xf xg), (xo_3_iiiiiiiirrrrr no v0n_2 v1n_2 v2n_2 v3n_2 (nI hn_2) v5n_2 (nI wn_2) (nI kn_2) nb1 nb2 nb3 nb4 nb5), (xI nb1 cI 6 g1n_2), (xI nb2 cI 6 g2n_2), (xI nb3 cI 6 g3n_2), (xI nb4 cI 6 g4n_2), (xI nb5 cI 6 g5n_2), (xo_0_rii ac be (nI qn_2) (nI zn_2)), (xJ be cL 24 fb)]) hP hD [0, 3, 4, 5, 6, 7, 8, 1, 2] (by decide +kernel) rfl
    exact W.iret (v := (nI zn_2)) hx hb hr (fun t ht hW => ⟨⟨(nI zn_2), (), rfl, (lf_X7_undo_4 nhb nwb nkb hLv hfb hok hq haz c_1 hF_2_0 hF_2_1 hF_2_2 hF_2_3 hF_2_4 hF_2_5 hF_2_6 hF_2_7 hF_2_8), ⟨Vn_2, Gn_2, v0n_2, v1n_2, v2n_2, v3n_2, v5n_2, g1n_2, g2n_2, g3n_2, g4n_2, g5n_2, hn_2, wn_2, kn_2, qn_2, zn_2, va_Ht ht hX9.1, hX9.2, hF_2_0, (by omega), (by omega), (by omega), (by omega), (by omega), (lf_X7_undo_1 nhb nwb nkb hLv hfb hok hq haz c_1 hF_2_0 hF_2_1 hF_2_2 hF_2_3 hF_2_4 hF_2_5 hF_2_6 hF_2_7 hF_2_8), (lf_X7_undo_2 nhb nwb nkb hLv hfb hok hq haz c_1 hF_2_0 hF_2_1 hF_2_2 hF_2_3 hF_2_4 hF_2_5 hF_2_6 hF_2_7 hF_2_8), (lf_X7_undo_3 nhb nwb nkb hLv hfb hok hq haz c_1 hF_2_0 hF_2_1 hF_2_2 hF_2_3 hF_2_4 hF_2_5 hF_2_6 hF_2_7 hF_2_8)⟩⟩, hS.F ht⟩) hS.2.2 dX7_undo_31
  · have c_1 : az = 0 := (nI_eq (a := az) (b := 0) (by omega) (by omega)).mp c_1
    refine lv_ldc (own := RX7) (v := (-1000002)) hx hb hown (hts _ mx_X7_undo_3) dX7_undo_10 ?_
    have hX9 := cut2P (cx := [(xo_7_rrrrrrrrrii x ro ta no ac im tr pl cs ak xf xg), (xo_3_iiiiiiiirrrrr no nv0 nv1 nv2 nv3 (nI nhh) nv5 (nI nww) (nI nkk) nb1 nb2 nb3 nb4 nb5), (xI nb1 cI 6 ng1), (xI nb2 cI 6 ng2), (xI nb3 cI 6 ng3), (xI nb4 cI 6 ng4), (xI nb5 cI 6 ng5), (xo_0_rii ac be (nI q) (nI az)), (xJ be cL 24 fb)]) hP hD [0, 1, 2, 3, 4, 5, 6, 7, 8] (by decide +kernel) rfl
    exact W.iret (v := (-1000002)) hx hb hr (fun t ht hW => ⟨⟨(-1000002), (), rfl, (lf_X7_undo_8 nhb nwb nkb hLv hfb hok hq haz c_1), ⟨V, G, nv0, nv1, nv2, nv3, nv5, ng1, ng2, ng3, ng4, ng5, nhh, nww, nkk, q, az, va_Ht ht hX9.1, hX9.2, hok, (by omega), (by omega), (by omega), (by omega), (by omega), (lf_X7_undo_5 nhb nwb nkb hLv hfb hok hq haz c_1), (lf_X7_undo_6 nhb nwb nkb hLv hfb hok hq haz c_1), (lf_X7_undo_7 nhb nwb nkb hLv hfb hok hq haz c_1)⟩⟩, hS.F ht⟩) hS.2.2 dX7_undo_12
set_option maxHeartbeats 60000 in
theorem lf_X7_hours_1 {nv0 : Int32} {nv1 : Int32} {nv2 : Int32} {nv3 : Int32} {nv5 : Int32} {nhh : Nat} {nww : Nat} {nkk : Nat} {ng1 : Nat → Int32} {ng2 : Nat → Int32} {ng3 : Nat → Int32} {ng4 : Nat → Int32} {ng5 : Nat → Int32} {q : Nat} {az : Nat} {fb : Nat → Option Nat} {ad : Nat → Nat} {V : Nat → Nat → Int32} {G : Nat → Nat → Nat → Int32} {k0 : Int32} (nhb : nhh ≤ 999) (nwb : nww ≤ 6) (nkb : nkk ≤ 6) (hLv : okLv (nrm nv0 nv1 nv2 nv3 nhh nv5 nww nkk ng1 ng2 ng3 ng4 ng5)) (hfb : ∀ i : Nat, i < 24 → fb i = some (ad i)) (hq : q < 24) (haz : az ≤ 24) (f_1_0_0 : ¬ 0 < nv0) : (nrm nv0 nv1 nv2 nv3 nhh nv5 nww nkk ng1 ng2 ng3 ng4 ng5) = (s_hrs (nrm nv0 nv1 nv2 nv3 nhh nv5 nww nkk ng1 ng2 ng3 ng4 ng5) az (acX q az V G) k0).1 := by
  first
  | with_reducible exact hx_l (hx_g0 (hz_0 hLv nhb nwb nkb f_1_0_0))
  | with_reducible exact hx_z (hx_g0 (hz_0 hLv nhb nwb nkb f_1_0_0))
  | with_reducible exact hx_c (hx_g0 (hz_0 hLv nhb nwb nkb f_1_0_0))
  | with_reducible exact hx_a0 (hz_0 hLv nhb nwb nkb f_1_0_0)
  | omega
set_option maxHeartbeats 60000 in
theorem lf_X7_hours_2 {nv0 : Int32} {nv1 : Int32} {nv2 : Int32} {nv3 : Int32} {nv5 : Int32} {nhh : Nat} {nww : Nat} {nkk : Nat} {ng1 : Nat → Int32} {ng2 : Nat → Int32} {ng3 : Nat → Int32} {ng4 : Nat → Int32} {ng5 : Nat → Int32} {q : Nat} {az : Nat} {fb : Nat → Option Nat} {ad : Nat → Nat} {V : Nat → Nat → Int32} {G : Nat → Nat → Nat → Int32} {k0 : Int32} (nhb : nhh ≤ 999) (nwb : nww ≤ 6) (nkb : nkk ≤ 6) (hLv : okLv (nrm nv0 nv1 nv2 nv3 nhh nv5 nww nkk ng1 ng2 ng3 ng4 ng5)) (hfb : ∀ i : Nat, i < 24 → fb i = some (ad i)) (hq : q < 24) (haz : az ≤ 24) (f_1_0_0 : ¬ 0 < nv0) : az = (s_hrs (nrm nv0 nv1 nv2 nv3 nhh nv5 nww nkk ng1 ng2 ng3 ng4 ng5) az (acX q az V G) k0).2.1 := by
  first
  | with_reducible exact hx_l (hx_g0 (hz_0 hLv nhb nwb nkb f_1_0_0))
  | with_reducible exact hx_z (hx_g0 (hz_0 hLv nhb nwb nkb f_1_0_0))
  | with_reducible exact hx_c (hx_g0 (hz_0 hLv nhb nwb nkb f_1_0_0))
  | with_reducible exact hx_a0 (hz_0 hLv nhb nwb nkb f_1_0_0)
  | omega
set_option maxHeartbeats 60000 in
theorem lf_X7_hours_3 {nv0 : Int32} {nv1 : Int32} {nv2 : Int32} {nv3 : Int32} {nv5 : Int32} {nhh : Nat} {nww : Nat} {nkk : Nat} {ng1 : Nat → Int32} {ng2 : Nat → Int32} {ng3 : Nat → Int32} {ng4 : Nat → Int32} {ng5 : Nat → Int32} {q : Nat} {az : Nat} {fb : Nat → Option Nat} {ad : Nat → Nat} {V : Nat → Nat → Int32} {G : Nat → Nat → Nat → Int32} {k0 : Int32} (nhb : nhh ≤ 999) (nwb : nww ≤ 6) (nkb : nkk ≤ 6) (hLv : okLv (nrm nv0 nv1 nv2 nv3 nhh nv5 nww nkk ng1 ng2 ng3 ng4 ng5)) (hfb : ∀ i : Nat, i < 24 → fb i = some (ad i)) (hq : q < 24) (haz : az ≤ 24) (f_1_0_0 : ¬ 0 < nv0) : acX q az V G = (s_hrs (nrm nv0 nv1 nv2 nv3 nhh nv5 nww nkk ng1 ng2 ng3 ng4 ng5) az (acX q az V G) k0).2.2 := by
  first
  | with_reducible exact hx_l (hx_g0 (hz_0 hLv nhb nwb nkb f_1_0_0))
  | with_reducible exact hx_z (hx_g0 (hz_0 hLv nhb nwb nkb f_1_0_0))
  | with_reducible exact hx_c (hx_g0 (hz_0 hLv nhb nwb nkb f_1_0_0))
  | with_reducible exact hx_a0 (hz_0 hLv nhb nwb nkb f_1_0_0)
  | omega
set_option maxHeartbeats 60000 in
theorem lf_X7_hours_4 {nv0 : Int32} {nv1 : Int32} {nv2 : Int32} {nv3 : Int32} {nv5 : Int32} {nhh : Nat} {nww : Nat} {nkk : Nat} {ng1 : Nat → Int32} {ng2 : Nat → Int32} {ng3 : Nat → Int32} {ng4 : Nat → Int32} {ng5 : Nat → Int32} {q : Nat} {az : Nat} {fb : Nat → Option Nat} {ad : Nat → Nat} {k0 : Int32} (nhb : nhh ≤ 999) (nwb : nww ≤ 6) (nkb : nkk ≤ 6) (hLv : okLv (nrm nv0 nv1 nv2 nv3 nhh nv5 nww nkk ng1 ng2 ng3 ng4 ng5)) (hfb : ∀ i : Nat, i < 24 → fb i = some (ad i)) (hq : q < 24) (haz : az ≤ 24) (f_1_0_0 : ¬ 0 < nv0) : (-1000002) = (a_hrs (nrm nv0 nv1 nv2 nv3 nhh nv5 nww nkk ng1 ng2 ng3 ng4 ng5) k0) := by
  first
  | with_reducible exact hx_l (hx_g0 (hz_0 hLv nhb nwb nkb f_1_0_0))
  | with_reducible exact hx_z (hx_g0 (hz_0 hLv nhb nwb nkb f_1_0_0))
  | with_reducible exact hx_c (hx_g0 (hz_0 hLv nhb nwb nkb f_1_0_0))
  | with_reducible exact hx_a0 (hz_0 hLv nhb nwb nkb f_1_0_0)
  | omega
set_option maxHeartbeats 60000 in
theorem lf_X7_hours_5 {nv0 : Int32} {nv1 : Int32} {nv2 : Int32} {nv3 : Int32} {nv5 : Int32} {nhh : Nat} {nww : Nat} {nkk : Nat} {ng1 : Nat → Int32} {ng2 : Nat → Int32} {ng3 : Nat → Int32} {ng4 : Nat → Int32} {ng5 : Nat → Int32} {q : Nat} {az : Nat} {fb : Nat → Option Nat} {ad : Nat → Nat} {V : Nat → Nat → Int32} {G : Nat → Nat → Nat → Int32} {k0 : Int32} (nhb : nhh ≤ 999) (nwb : nww ≤ 6) (nkb : nkk ≤ 6) (hLv : okLv (nrm nv0 nv1 nv2 nv3 nhh nv5 nww nkk ng1 ng2 ng3 ng4 ng5)) (hfb : ∀ i : Nat, i < 24 → fb i = some (ad i)) (hq : q < 24) (haz : az ≤ 24) (f_1_1_0 : 0 < nv0) (c_4 : k0 < 1) : (nrm nv0 nv1 nv2 nv3 nhh nv5 nww nkk ng1 ng2 ng3 ng4 ng5) = (s_hrs (nrm nv0 nv1 nv2 nv3 nhh nv5 nww nkk ng1 ng2 ng3 ng4 ng5) az (acX q az V G) k0).1 := by
  first
  | with_reducible exact hx_l (hx_g1 c_4)
  | with_reducible exact hx_z (hx_g1 c_4)
  | with_reducible exact hx_c (hx_g1 c_4)
  | with_reducible exact hx_a1 (hz_1 hLv nhb nwb nkb f_1_1_0) (Or.inl c_4)
  | omega
set_option maxHeartbeats 60000 in
theorem lf_X7_hours_6 {nv0 : Int32} {nv1 : Int32} {nv2 : Int32} {nv3 : Int32} {nv5 : Int32} {nhh : Nat} {nww : Nat} {nkk : Nat} {ng1 : Nat → Int32} {ng2 : Nat → Int32} {ng3 : Nat → Int32} {ng4 : Nat → Int32} {ng5 : Nat → Int32} {q : Nat} {az : Nat} {fb : Nat → Option Nat} {ad : Nat → Nat} {V : Nat → Nat → Int32} {G : Nat → Nat → Nat → Int32} {k0 : Int32} (nhb : nhh ≤ 999) (nwb : nww ≤ 6) (nkb : nkk ≤ 6) (hLv : okLv (nrm nv0 nv1 nv2 nv3 nhh nv5 nww nkk ng1 ng2 ng3 ng4 ng5)) (hfb : ∀ i : Nat, i < 24 → fb i = some (ad i)) (hq : q < 24) (haz : az ≤ 24) (f_1_1_0 : 0 < nv0) (c_4 : k0 < 1) : az = (s_hrs (nrm nv0 nv1 nv2 nv3 nhh nv5 nww nkk ng1 ng2 ng3 ng4 ng5) az (acX q az V G) k0).2.1 := by
  first
  | with_reducible exact hx_l (hx_g1 c_4)
  | with_reducible exact hx_z (hx_g1 c_4)
  | with_reducible exact hx_c (hx_g1 c_4)
  | with_reducible exact hx_a1 (hz_1 hLv nhb nwb nkb f_1_1_0) (Or.inl c_4)
  | omega
set_option maxHeartbeats 60000 in
theorem lf_X7_hours_7 {nv0 : Int32} {nv1 : Int32} {nv2 : Int32} {nv3 : Int32} {nv5 : Int32} {nhh : Nat} {nww : Nat} {nkk : Nat} {ng1 : Nat → Int32} {ng2 : Nat → Int32} {ng3 : Nat → Int32} {ng4 : Nat → Int32} {ng5 : Nat → Int32} {q : Nat} {az : Nat} {fb : Nat → Option Nat} {ad : Nat → Nat} {V : Nat → Nat → Int32} {G : Nat → Nat → Nat → Int32} {k0 : Int32} (nhb : nhh ≤ 999) (nwb : nww ≤ 6) (nkb : nkk ≤ 6) (hLv : okLv (nrm nv0 nv1 nv2 nv3 nhh nv5 nww nkk ng1 ng2 ng3 ng4 ng5)) (hfb : ∀ i : Nat, i < 24 → fb i = some (ad i)) (hq : q < 24) (haz : az ≤ 24) (f_1_1_0 : 0 < nv0) (c_4 : k0 < 1) : acX q az V G = (s_hrs (nrm nv0 nv1 nv2 nv3 nhh nv5 nww nkk ng1 ng2 ng3 ng4 ng5) az (acX q az V G) k0).2.2 := by
  first
  | with_reducible exact hx_l (hx_g1 c_4)
  | with_reducible exact hx_z (hx_g1 c_4)
  | with_reducible exact hx_c (hx_g1 c_4)
  | with_reducible exact hx_a1 (hz_1 hLv nhb nwb nkb f_1_1_0) (Or.inl c_4)
  | omega
set_option maxHeartbeats 60000 in
theorem lf_X7_hours_8 {nv0 : Int32} {nv1 : Int32} {nv2 : Int32} {nv3 : Int32} {nv5 : Int32} {nhh : Nat} {nww : Nat} {nkk : Nat} {ng1 : Nat → Int32} {ng2 : Nat → Int32} {ng3 : Nat → Int32} {ng4 : Nat → Int32} {ng5 : Nat → Int32} {q : Nat} {az : Nat} {fb : Nat → Option Nat} {ad : Nat → Nat} {k0 : Int32} (nhb : nhh ≤ 999) (nwb : nww ≤ 6) (nkb : nkk ≤ 6) (hLv : okLv (nrm nv0 nv1 nv2 nv3 nhh nv5 nww nkk ng1 ng2 ng3 ng4 ng5)) (hfb : ∀ i : Nat, i < 24 → fb i = some (ad i)) (hq : q < 24) (haz : az ≤ 24) (f_1_1_0 : 0 < nv0) (c_4 : k0 < 1) : (-1000001) = (a_hrs (nrm nv0 nv1 nv2 nv3 nhh nv5 nww nkk ng1 ng2 ng3 ng4 ng5) k0) := by
  first
  | with_reducible exact hx_l (hx_g1 c_4)
  | with_reducible exact hx_z (hx_g1 c_4)
  | with_reducible exact hx_c (hx_g1 c_4)
  | with_reducible exact hx_a1 (hz_1 hLv nhb nwb nkb f_1_1_0) (Or.inl c_4)
  | omega
set_option maxHeartbeats 60000 in
theorem lf_X7_hours_9 {nv0 : Int32} {nv1 : Int32} {nv2 : Int32} {nv3 : Int32} {nv5 : Int32} {nhh : Nat} {nww : Nat} {nkk : Nat} {ng1 : Nat → Int32} {ng2 : Nat → Int32} {ng3 : Nat → Int32} {ng4 : Nat → Int32} {ng5 : Nat → Int32} {q : Nat} {az : Nat} {fb : Nat → Option Nat} {ad : Nat → Nat} {V : Nat → Nat → Int32} {G : Nat → Nat → Nat → Int32} {j_6 : Nat} {w_14 : Int32} {w_15 : Nat → Int32} {w_16 : Nat → Int32} {w_17 : Nat → Int32} {w_18 : Nat} {w_19 : Nat} {w_20 : Nat → Nat → Int32} {w_21 : Nat → Nat → Nat → Int32} {ii : Nat} {Vn_34 : Nat → Nat → Int32} {Gn_34 : Nat → Nat → Nat → Int32} {qn_34 : Nat} {zn_34 : Nat} {v5n_35 : Int32} {g3n_35 : Nat → Int32} {g4n_35 : Nat → Int32} {g5n_35 : Nat → Int32} (nhb : nhh ≤ 999) (nwb : nww ≤ 6) (nkb : nkk ≤ 6) (hLv : okLv (nrm nv0 nv1 nv2 nv3 nhh nv5 nww nkk ng1 ng2 ng3 ng4 ng5)) (hfb : ∀ i : Nat, i < 24 → fb i = some (ad i)) (hq : q < 24) (haz : az ≤ 24) (f_1_1_0 : 0 < nv0) (c_4 : ¬ ((nI j_6) < 1)) (c_5 : (nI j_6) ≤ 24) (hj_6 : j_6 ≤ 24) (c_8 : (nhh + j_6) ≤ 999) (hii : ii < j_6) (haf_0 : (hrI ii (nrm nv0 nv1 nv2 nv3 nhh nv5 nww nkk ng1 ng2 ng3 ng4 ng5) az (acX q az V G) = ((nrm nv0 nv1 nv2 nv3 (nhh + ii) w_14 nww nkk ng1 ng2 w_15 w_16 w_17), w_19, acX w_18 w_19 w_20 w_21))) (hnb_w_18 : w_18 ≤ 23) (hnb_w_19 : w_19 ≤ 24) (hF_34_0 : (∀ i : Nat, i < 24 → okL (Vn_34 i))) (hF_34_1 : qn_34 < 24) (hF_34_2 : zn_34 ≤ 24) (hF_34_3 : nrV (Vn_34 w_18) (Gn_34 w_18) = (nrm nv0 nv1 nv2 nv3 (nhh + ii) w_14 nww nkk ng1 ng2 w_15 w_16 w_17)) (hF_34_4 : (∀ i : Nat, i < 24 → i ≠ w_18 → nrV (Vn_34 i) (Gn_34 i) = nrV (w_20 i) (w_21 i))) (hF_34_5 : qn_34 = (w_18 + 1) % 24) (hF_34_6 : zn_34 = ntN w_19) (hF_35_0 : paX nv0 nv1 nv2 nv3 ng2 (wdX ng1 nww (nhh + ii) 0) nkk (w_14, w_15, w_16, w_17) = (v5n_35, g3n_35, g4n_35, g5n_35)) : hrI (ii + 1) (nrm nv0 nv1 nv2 nv3 nhh nv5 nww nkk ng1 ng2 ng3 ng4 ng5) az (acX q az V G) = ((nrm nv0 nv1 nv2 nv3 (nhh + (ii + 1)) v5n_35 nww nkk ng1 ng2 g3n_35 g4n_35 g5n_35), zn_34, acX qn_34 zn_34 Vn_34 Gn_34) := by
  subst_vars
  exact hr_stepX (okLv_N hLv (hz_1 hLv nhb nwb nkb f_1_1_0)) (by omega) (by omega) nwb nkb (by omega) (by omega) haf_0 (by assumption) (by assumption) (by assumption)
set_option maxHeartbeats 60000 in
theorem lf_X7_hours_10 {nv0 : Int32} {nv1 : Int32} {nv2 : Int32} {nv3 : Int32} {nv5 : Int32} {nhh : Nat} {nww : Nat} {nkk : Nat} {ng1 : Nat → Int32} {ng2 : Nat → Int32} {ng3 : Nat → Int32} {ng4 : Nat → Int32} {ng5 : Nat → Int32} {q : Nat} {az : Nat} {fb : Nat → Option Nat} {ad : Nat → Nat} {V : Nat → Nat → Int32} {G : Nat → Nat → Nat → Int32} {j_6 : Nat} {w_14 : Int32} {w_15 : Nat → Int32} {w_16 : Nat → Int32} {w_17 : Nat → Int32} {w_18 : Nat} {w_19 : Nat} {w_20 : Nat → Nat → Int32} {w_21 : Nat → Nat → Nat → Int32} (nhb : nhh ≤ 999) (nwb : nww ≤ 6) (nkb : nkk ≤ 6) (hLv : okLv (nrm nv0 nv1 nv2 nv3 nhh nv5 nww nkk ng1 ng2 ng3 ng4 ng5)) (hfb : ∀ i : Nat, i < 24 → fb i = some (ad i)) (hq : q < 24) (haz : az ≤ 24) (f_1_1_0 : 0 < nv0) (c_4 : ¬ ((nI j_6) < 1)) (c_5 : (nI j_6) ≤ 24) (hj_6 : j_6 ≤ 24) (c_8 : (nhh + j_6) ≤ 999) (haf_0 : (hrI j_6 (nrm nv0 nv1 nv2 nv3 nhh nv5 nww nkk ng1 ng2 ng3 ng4 ng5) az (acX q az V G) = ((nrm nv0 nv1 nv2 nv3 (nhh + j_6) w_14 nww nkk ng1 ng2 w_15 w_16 w_17), w_19, acX w_18 w_19 w_20 w_21))) (hnb_w_18 : w_18 ≤ 23) (hnb_w_19 : w_19 ≤ 24) : (nrm nv0 nv1 nv2 nv3 (nhh + j_6) w_14 nww nkk ng1 ng2 w_15 w_16 w_17) = (s_hrs (nrm nv0 nv1 nv2 nv3 nhh nv5 nww nkk ng1 ng2 ng3 ng4 ng5) az (acX q az V G) (nI j_6)).1 := by
  first
  | with_reducible exact hx_l (hx_g1 c_4)
  | with_reducible exact hx_z (hx_g1 c_4)
  | with_reducible exact hx_c (hx_g1 c_4)
  | with_reducible exact hx_a1 (hz_1 hLv nhb nwb nkb f_1_1_0) (Or.inl c_4)
  | with_reducible exact hx_l (hx_g2 c_5)
  | with_reducible exact hx_z (hx_g2 c_5)
  | with_reducible exact hx_c (hx_g2 c_5)
  | with_reducible exact hx_a1 (hz_1 hLv nhb nwb nkb f_1_1_0) (Or.inr (i_nle.mp c_5))
  | with_reducible exact (hrs_pos c_4 (hz_1 hLv nhb nwb nkb f_1_1_0) hj_6 nr5 c_8 haf_0).1
  | with_reducible exact (hrs_pos c_4 (hz_1 hLv nhb nwb nkb f_1_1_0) hj_6 nr5 c_8 haf_0).2.1
  | with_reducible exact (hrs_pos c_4 (hz_1 hLv nhb nwb nkb f_1_1_0) hj_6 nr5 c_8 haf_0).2.2.1
  | with_reducible exact nr7.symm.trans (hrs_pos c_4 (hz_1 hLv nhb nwb nkb f_1_1_0) hj_6 nr5 c_8 haf_0).2.2.2
  | with_reducible exact pr_1 (hrs_neg c_4 (hz_1 hLv nhb nwb nkb f_1_1_0) hj_6 nr5 nhb c_8)
  | with_reducible exact pr_2 (hrs_neg c_4 (hz_1 hLv nhb nwb nkb f_1_1_0) hj_6 nr5 nhb c_8)
  | with_reducible exact pr_3 (hrs_neg c_4 (hz_1 hLv nhb nwb nkb f_1_1_0) hj_6 nr5 nhb c_8)
  | with_reducible exact (hrs_nega c_4 (hz_1 hLv nhb nwb nkb f_1_1_0) hj_6 nr5 nhb c_8).symm
  | omega
set_option maxHeartbeats 60000 in
theorem lf_X7_hours_11 {nv0 : Int32} {nv1 : Int32} {nv2 : Int32} {nv3 : Int32} {nv5 : Int32} {nhh : Nat} {nww : Nat} {nkk : Nat} {ng1 : Nat → Int32} {ng2 : Nat → Int32} {ng3 : Nat → Int32} {ng4 : Nat → Int32} {ng5 : Nat → Int32} {q : Nat} {az : Nat} {fb : Nat → Option Nat} {ad : Nat → Nat} {V : Nat → Nat → Int32} {G : Nat → Nat → Nat → Int32} {j_6 : Nat} {w_14 : Int32} {w_15 : Nat → Int32} {w_16 : Nat → Int32} {w_17 : Nat → Int32} {w_18 : Nat} {w_19 : Nat} {w_20 : Nat → Nat → Int32} {w_21 : Nat → Nat → Nat → Int32} (nhb : nhh ≤ 999) (nwb : nww ≤ 6) (nkb : nkk ≤ 6) (hLv : okLv (nrm nv0 nv1 nv2 nv3 nhh nv5 nww nkk ng1 ng2 ng3 ng4 ng5)) (hfb : ∀ i : Nat, i < 24 → fb i = some (ad i)) (hq : q < 24) (haz : az ≤ 24) (f_1_1_0 : 0 < nv0) (c_4 : ¬ ((nI j_6) < 1)) (c_5 : (nI j_6) ≤ 24) (hj_6 : j_6 ≤ 24) (c_8 : (nhh + j_6) ≤ 999) (haf_0 : (hrI j_6 (nrm nv0 nv1 nv2 nv3 nhh nv5 nww nkk ng1 ng2 ng3 ng4 ng5) az (acX q az V G) = ((nrm nv0 nv1 nv2 nv3 (nhh + j_6) w_14 nww nkk ng1 ng2 w_15 w_16 w_17), w_19, acX w_18 w_19 w_20 w_21))) (hnb_w_18 : w_18 ≤ 23) (hnb_w_19 : w_19 ≤ 24) : w_19 = (s_hrs (nrm nv0 nv1 nv2 nv3 nhh nv5 nww nkk ng1 ng2 ng3 ng4 ng5) az (acX q az V G) (nI j_6)).2.1 := by
  first
  | with_reducible exact hx_l (hx_g1 c_4)
  | with_reducible exact hx_z (hx_g1 c_4)
  | with_reducible exact hx_c (hx_g1 c_4)
  | with_reducible exact hx_a1 (hz_1 hLv nhb nwb nkb f_1_1_0) (Or.inl c_4)
  | with_reducible exact hx_l (hx_g2 c_5)
  | with_reducible exact hx_z (hx_g2 c_5)
  | with_reducible exact hx_c (hx_g2 c_5)
  | with_reducible exact hx_a1 (hz_1 hLv nhb nwb nkb f_1_1_0) (Or.inr (i_nle.mp c_5))
  | with_reducible exact (hrs_pos c_4 (hz_1 hLv nhb nwb nkb f_1_1_0) hj_6 nr5 c_8 haf_0).1
  | with_reducible exact (hrs_pos c_4 (hz_1 hLv nhb nwb nkb f_1_1_0) hj_6 nr5 c_8 haf_0).2.1
  | with_reducible exact (hrs_pos c_4 (hz_1 hLv nhb nwb nkb f_1_1_0) hj_6 nr5 c_8 haf_0).2.2.1
  | with_reducible exact nr7.symm.trans (hrs_pos c_4 (hz_1 hLv nhb nwb nkb f_1_1_0) hj_6 nr5 c_8 haf_0).2.2.2
  | with_reducible exact pr_1 (hrs_neg c_4 (hz_1 hLv nhb nwb nkb f_1_1_0) hj_6 nr5 nhb c_8)
  | with_reducible exact pr_2 (hrs_neg c_4 (hz_1 hLv nhb nwb nkb f_1_1_0) hj_6 nr5 nhb c_8)
  | with_reducible exact pr_3 (hrs_neg c_4 (hz_1 hLv nhb nwb nkb f_1_1_0) hj_6 nr5 nhb c_8)
  | with_reducible exact (hrs_nega c_4 (hz_1 hLv nhb nwb nkb f_1_1_0) hj_6 nr5 nhb c_8).symm
  | omega
set_option maxHeartbeats 60000 in
theorem lf_X7_hours_12 {nv0 : Int32} {nv1 : Int32} {nv2 : Int32} {nv3 : Int32} {nv5 : Int32} {nhh : Nat} {nww : Nat} {nkk : Nat} {ng1 : Nat → Int32} {ng2 : Nat → Int32} {ng3 : Nat → Int32} {ng4 : Nat → Int32} {ng5 : Nat → Int32} {q : Nat} {az : Nat} {fb : Nat → Option Nat} {ad : Nat → Nat} {V : Nat → Nat → Int32} {G : Nat → Nat → Nat → Int32} {j_6 : Nat} {w_14 : Int32} {w_15 : Nat → Int32} {w_16 : Nat → Int32} {w_17 : Nat → Int32} {w_18 : Nat} {w_19 : Nat} {w_20 : Nat → Nat → Int32} {w_21 : Nat → Nat → Nat → Int32} (nhb : nhh ≤ 999) (nwb : nww ≤ 6) (nkb : nkk ≤ 6) (hLv : okLv (nrm nv0 nv1 nv2 nv3 nhh nv5 nww nkk ng1 ng2 ng3 ng4 ng5)) (hfb : ∀ i : Nat, i < 24 → fb i = some (ad i)) (hq : q < 24) (haz : az ≤ 24) (f_1_1_0 : 0 < nv0) (c_4 : ¬ ((nI j_6) < 1)) (c_5 : (nI j_6) ≤ 24) (hj_6 : j_6 ≤ 24) (c_8 : (nhh + j_6) ≤ 999) (haf_0 : (hrI j_6 (nrm nv0 nv1 nv2 nv3 nhh nv5 nww nkk ng1 ng2 ng3 ng4 ng5) az (acX q az V G) = ((nrm nv0 nv1 nv2 nv3 (nhh + j_6) w_14 nww nkk ng1 ng2 w_15 w_16 w_17), w_19, acX w_18 w_19 w_20 w_21))) (hnb_w_18 : w_18 ≤ 23) (hnb_w_19 : w_19 ≤ 24) : acX w_18 w_19 w_20 w_21 = (s_hrs (nrm nv0 nv1 nv2 nv3 nhh nv5 nww nkk ng1 ng2 ng3 ng4 ng5) az (acX q az V G) (nI j_6)).2.2 := by
  first
  | with_reducible exact hx_l (hx_g1 c_4)
  | with_reducible exact hx_z (hx_g1 c_4)
  | with_reducible exact hx_c (hx_g1 c_4)
  | with_reducible exact hx_a1 (hz_1 hLv nhb nwb nkb f_1_1_0) (Or.inl c_4)
  | with_reducible exact hx_l (hx_g2 c_5)
  | with_reducible exact hx_z (hx_g2 c_5)
  | with_reducible exact hx_c (hx_g2 c_5)
  | with_reducible exact hx_a1 (hz_1 hLv nhb nwb nkb f_1_1_0) (Or.inr (i_nle.mp c_5))
  | with_reducible exact (hrs_pos c_4 (hz_1 hLv nhb nwb nkb f_1_1_0) hj_6 nr5 c_8 haf_0).1
  | with_reducible exact (hrs_pos c_4 (hz_1 hLv nhb nwb nkb f_1_1_0) hj_6 nr5 c_8 haf_0).2.1
  | with_reducible exact (hrs_pos c_4 (hz_1 hLv nhb nwb nkb f_1_1_0) hj_6 nr5 c_8 haf_0).2.2.1
  | with_reducible exact nr7.symm.trans (hrs_pos c_4 (hz_1 hLv nhb nwb nkb f_1_1_0) hj_6 nr5 c_8 haf_0).2.2.2
  | with_reducible exact pr_1 (hrs_neg c_4 (hz_1 hLv nhb nwb nkb f_1_1_0) hj_6 nr5 nhb c_8)
  | with_reducible exact pr_2 (hrs_neg c_4 (hz_1 hLv nhb nwb nkb f_1_1_0) hj_6 nr5 nhb c_8)
  | with_reducible exact pr_3 (hrs_neg c_4 (hz_1 hLv nhb nwb nkb f_1_1_0) hj_6 nr5 nhb c_8)
  | with_reducible exact (hrs_nega c_4 (hz_1 hLv nhb nwb nkb f_1_1_0) hj_6 nr5 nhb c_8).symm
  | omega
set_option maxHeartbeats 60000 in
theorem lf_X7_hours_13 {nv0 : Int32} {nv1 : Int32} {nv2 : Int32} {nv3 : Int32} {nv5 : Int32} {nhh : Nat} {nww : Nat} {nkk : Nat} {ng1 : Nat → Int32} {ng2 : Nat → Int32} {ng3 : Nat → Int32} {ng4 : Nat → Int32} {ng5 : Nat → Int32} {q : Nat} {az : Nat} {fb : Nat → Option Nat} {ad : Nat → Nat} {V : Nat → Nat → Int32} {G : Nat → Nat → Nat → Int32} {j_6 : Nat} {w_14 : Int32} {w_15 : Nat → Int32} {w_16 : Nat → Int32} {w_17 : Nat → Int32} {w_18 : Nat} {w_19 : Nat} {w_20 : Nat → Nat → Int32} {w_21 : Nat → Nat → Nat → Int32} (nhb : nhh ≤ 999) (nwb : nww ≤ 6) (nkb : nkk ≤ 6) (hLv : okLv (nrm nv0 nv1 nv2 nv3 nhh nv5 nww nkk ng1 ng2 ng3 ng4 ng5)) (hfb : ∀ i : Nat, i < 24 → fb i = some (ad i)) (hq : q < 24) (haz : az ≤ 24) (f_1_1_0 : 0 < nv0) (c_4 : ¬ ((nI j_6) < 1)) (c_5 : (nI j_6) ≤ 24) (hj_6 : j_6 ≤ 24) (c_8 : (nhh + j_6) ≤ 999) (haf_0 : (hrI j_6 (nrm nv0 nv1 nv2 nv3 nhh nv5 nww nkk ng1 ng2 ng3 ng4 ng5) az (acX q az V G) = ((nrm nv0 nv1 nv2 nv3 (nhh + j_6) w_14 nww nkk ng1 ng2 w_15 w_16 w_17), w_19, acX w_18 w_19 w_20 w_21))) (hnb_w_18 : w_18 ≤ 23) (hnb_w_19 : w_19 ≤ 24) : w_14 = (a_hrs (nrm nv0 nv1 nv2 nv3 nhh nv5 nww nkk ng1 ng2 ng3 ng4 ng5) (nI j_6)) := by
  first
  | with_reducible exact hx_l (hx_g1 c_4)
  | with_reducible exact hx_z (hx_g1 c_4)
  | with_reducible exact hx_c (hx_g1 c_4)
  | with_reducible exact hx_a1 (hz_1 hLv nhb nwb nkb f_1_1_0) (Or.inl c_4)
  | with_reducible exact hx_l (hx_g2 c_5)
  | with_reducible exact hx_z (hx_g2 c_5)
  | with_reducible exact hx_c (hx_g2 c_5)
  | with_reducible exact hx_a1 (hz_1 hLv nhb nwb nkb f_1_1_0) (Or.inr (i_nle.mp c_5))
  | with_reducible exact (hrs_pos c_4 (hz_1 hLv nhb nwb nkb f_1_1_0) hj_6 nr5 c_8 haf_0).1
  | with_reducible exact (hrs_pos c_4 (hz_1 hLv nhb nwb nkb f_1_1_0) hj_6 nr5 c_8 haf_0).2.1
  | with_reducible exact (hrs_pos c_4 (hz_1 hLv nhb nwb nkb f_1_1_0) hj_6 nr5 c_8 haf_0).2.2.1
  | with_reducible exact nr7.symm.trans (hrs_pos c_4 (hz_1 hLv nhb nwb nkb f_1_1_0) hj_6 nr5 c_8 haf_0).2.2.2
  | with_reducible exact pr_1 (hrs_neg c_4 (hz_1 hLv nhb nwb nkb f_1_1_0) hj_6 nr5 nhb c_8)
  | with_reducible exact pr_2 (hrs_neg c_4 (hz_1 hLv nhb nwb nkb f_1_1_0) hj_6 nr5 nhb c_8)
  | with_reducible exact pr_3 (hrs_neg c_4 (hz_1 hLv nhb nwb nkb f_1_1_0) hj_6 nr5 nhb c_8)
  | with_reducible exact (hrs_nega c_4 (hz_1 hLv nhb nwb nkb f_1_1_0) hj_6 nr5 nhb c_8).symm
  | omega
set_option maxHeartbeats 60000 in
theorem lf_X7_hours_14 {nv0 : Int32} {nv1 : Int32} {nv2 : Int32} {nv3 : Int32} {nv5 : Int32} {nhh : Nat} {nww : Nat} {nkk : Nat} {ng1 : Nat → Int32} {ng2 : Nat → Int32} {ng3 : Nat → Int32} {ng4 : Nat → Int32} {ng5 : Nat → Int32} {q : Nat} {az : Nat} {fb : Nat → Option Nat} {ad : Nat → Nat} {V : Nat → Nat → Int32} {G : Nat → Nat → Nat → Int32} {j_6 : Nat} (nhb : nhh ≤ 999) (nwb : nww ≤ 6) (nkb : nkk ≤ 6) (hLv : okLv (nrm nv0 nv1 nv2 nv3 nhh nv5 nww nkk ng1 ng2 ng3 ng4 ng5)) (hfb : ∀ i : Nat, i < 24 → fb i = some (ad i)) (hq : q < 24) (haz : az ≤ 24) (f_1_1_0 : 0 < nv0) (c_4 : ¬ ((nI j_6) < 1)) (c_5 : (nI j_6) ≤ 24) (hj_6 : j_6 ≤ 24) (c_8 : ¬ ((nhh + j_6) ≤ 999)) : (nrm nv0 nv1 nv2 nv3 nhh nv5 nww nkk ng1 ng2 ng3 ng4 ng5) = (s_hrs (nrm nv0 nv1 nv2 nv3 nhh nv5 nww nkk ng1 ng2 ng3 ng4 ng5) az (acX q az V G) (nI j_6)).1 := by
  first
  | with_reducible exact hx_l (hx_g1 c_4)
  | with_reducible exact hx_z (hx_g1 c_4)
  | with_reducible exact hx_c (hx_g1 c_4)
  | with_reducible exact hx_a1 (hz_1 hLv nhb nwb nkb f_1_1_0) (Or.inl c_4)
  | with_reducible exact hx_l (hx_g2 c_5)
  | with_reducible exact hx_z (hx_g2 c_5)
  | with_reducible exact hx_c (hx_g2 c_5)
  | with_reducible exact hx_a1 (hz_1 hLv nhb nwb nkb f_1_1_0) (Or.inr (i_nle.mp c_5))
  | with_reducible exact pr_1 (hrs_neg c_4 (hz_1 hLv nhb nwb nkb f_1_1_0) hj_6 nr5 nhb c_8)
  | with_reducible exact pr_2 (hrs_neg c_4 (hz_1 hLv nhb nwb nkb f_1_1_0) hj_6 nr5 nhb c_8)
  | with_reducible exact pr_3 (hrs_neg c_4 (hz_1 hLv nhb nwb nkb f_1_1_0) hj_6 nr5 nhb c_8)
  | with_reducible exact (hrs_nega c_4 (hz_1 hLv nhb nwb nkb f_1_1_0) hj_6 nr5 nhb c_8).symm
  | omega
set_option maxHeartbeats 60000 in
theorem lf_X7_hours_15 {nv0 : Int32} {nv1 : Int32} {nv2 : Int32} {nv3 : Int32} {nv5 : Int32} {nhh : Nat} {nww : Nat} {nkk : Nat} {ng1 : Nat → Int32} {ng2 : Nat → Int32} {ng3 : Nat → Int32} {ng4 : Nat → Int32} {ng5 : Nat → Int32} {q : Nat} {az : Nat} {fb : Nat → Option Nat} {ad : Nat → Nat} {V : Nat → Nat → Int32} {G : Nat → Nat → Nat → Int32} {j_6 : Nat} (nhb : nhh ≤ 999) (nwb : nww ≤ 6) (nkb : nkk ≤ 6) (hLv : okLv (nrm nv0 nv1 nv2 nv3 nhh nv5 nww nkk ng1 ng2 ng3 ng4 ng5)) (hfb : ∀ i : Nat, i < 24 → fb i = some (ad i)) (hq : q < 24) (haz : az ≤ 24) (f_1_1_0 : 0 < nv0) (c_4 : ¬ ((nI j_6) < 1)) (c_5 : (nI j_6) ≤ 24) (hj_6 : j_6 ≤ 24) (c_8 : ¬ ((nhh + j_6) ≤ 999)) : az = (s_hrs (nrm nv0 nv1 nv2 nv3 nhh nv5 nww nkk ng1 ng2 ng3 ng4 ng5) az (acX q az V G) (nI j_6)).2.1 := by
  first
  | with_reducible exact hx_l (hx_g1 c_4)
  | with_reducible exact hx_z (hx_g1 c_4)
  | with_reducible exact hx_c (hx_g1 c_4)
  | with_reducible exact hx_a1 (hz_1 hLv nhb nwb nkb f_1_1_0) (Or.inl c_4)
  | with_reducible exact hx_l (hx_g2 c_5)
  | with_reducible exact hx_z (hx_g2 c_5)
  | with_reducible exact hx_c (hx_g2 c_5)
  | with_reducible exact hx_a1 (hz_1 hLv nhb nwb nkb f_1_1_0) (Or.inr (i_nle.mp c_5))
  | with_reducible exact pr_1 (hrs_neg c_4 (hz_1 hLv nhb nwb nkb f_1_1_0) hj_6 nr5 nhb c_8)
  | with_reducible exact pr_2 (hrs_neg c_4 (hz_1 hLv nhb nwb nkb f_1_1_0) hj_6 nr5 nhb c_8)
  | with_reducible exact pr_3 (hrs_neg c_4 (hz_1 hLv nhb nwb nkb f_1_1_0) hj_6 nr5 nhb c_8)
  | with_reducible exact (hrs_nega c_4 (hz_1 hLv nhb nwb nkb f_1_1_0) hj_6 nr5 nhb c_8).symm
  | omega
set_option maxHeartbeats 60000 in
theorem lf_X7_hours_16 {nv0 : Int32} {nv1 : Int32} {nv2 : Int32} {nv3 : Int32} {nv5 : Int32} {nhh : Nat} {nww : Nat} {nkk : Nat} {ng1 : Nat → Int32} {ng2 : Nat → Int32} {ng3 : Nat → Int32} {ng4 : Nat → Int32} {ng5 : Nat → Int32} {q : Nat} {az : Nat} {fb : Nat → Option Nat} {ad : Nat → Nat} {V : Nat → Nat → Int32} {G : Nat → Nat → Nat → Int32} {j_6 : Nat} (nhb : nhh ≤ 999) (nwb : nww ≤ 6) (nkb : nkk ≤ 6) (hLv : okLv (nrm nv0 nv1 nv2 nv3 nhh nv5 nww nkk ng1 ng2 ng3 ng4 ng5)) (hfb : ∀ i : Nat, i < 24 → fb i = some (ad i)) (hq : q < 24) (haz : az ≤ 24) (f_1_1_0 : 0 < nv0) (c_4 : ¬ ((nI j_6) < 1)) (c_5 : (nI j_6) ≤ 24) (hj_6 : j_6 ≤ 24) (c_8 : ¬ ((nhh + j_6) ≤ 999)) : acX q az V G = (s_hrs (nrm nv0 nv1 nv2 nv3 nhh nv5 nww nkk ng1 ng2 ng3 ng4 ng5) az (acX q az V G) (nI j_6)).2.2 := by
  first
  | with_reducible exact hx_l (hx_g1 c_4)
  | with_reducible exact hx_z (hx_g1 c_4)
  | with_reducible exact hx_c (hx_g1 c_4)
  | with_reducible exact hx_a1 (hz_1 hLv nhb nwb nkb f_1_1_0) (Or.inl c_4)
  | with_reducible exact hx_l (hx_g2 c_5)
  | with_reducible exact hx_z (hx_g2 c_5)
  | with_reducible exact hx_c (hx_g2 c_5)
  | with_reducible exact hx_a1 (hz_1 hLv nhb nwb nkb f_1_1_0) (Or.inr (i_nle.mp c_5))
  | with_reducible exact pr_1 (hrs_neg c_4 (hz_1 hLv nhb nwb nkb f_1_1_0) hj_6 nr5 nhb c_8)
  | with_reducible exact pr_2 (hrs_neg c_4 (hz_1 hLv nhb nwb nkb f_1_1_0) hj_6 nr5 nhb c_8)
  | with_reducible exact pr_3 (hrs_neg c_4 (hz_1 hLv nhb nwb nkb f_1_1_0) hj_6 nr5 nhb c_8)
  | with_reducible exact (hrs_nega c_4 (hz_1 hLv nhb nwb nkb f_1_1_0) hj_6 nr5 nhb c_8).symm
  | omega
set_option maxHeartbeats 60000 in
theorem lf_X7_hours_17 {nv0 : Int32} {nv1 : Int32} {nv2 : Int32} {nv3 : Int32} {nv5 : Int32} {nhh : Nat} {nww : Nat} {nkk : Nat} {ng1 : Nat → Int32} {ng2 : Nat → Int32} {ng3 : Nat → Int32} {ng4 : Nat → Int32} {ng5 : Nat → Int32} {q : Nat} {az : Nat} {fb : Nat → Option Nat} {ad : Nat → Nat} {j_6 : Nat} (nhb : nhh ≤ 999) (nwb : nww ≤ 6) (nkb : nkk ≤ 6) (hLv : okLv (nrm nv0 nv1 nv2 nv3 nhh nv5 nww nkk ng1 ng2 ng3 ng4 ng5)) (hfb : ∀ i : Nat, i < 24 → fb i = some (ad i)) (hq : q < 24) (haz : az ≤ 24) (f_1_1_0 : 0 < nv0) (c_4 : ¬ ((nI j_6) < 1)) (c_5 : (nI j_6) ≤ 24) (hj_6 : j_6 ≤ 24) (c_8 : ¬ ((nhh + j_6) ≤ 999)) : (-1000003) = (a_hrs (nrm nv0 nv1 nv2 nv3 nhh nv5 nww nkk ng1 ng2 ng3 ng4 ng5) (nI j_6)) := by
  first
  | with_reducible exact hx_l (hx_g1 c_4)
  | with_reducible exact hx_z (hx_g1 c_4)
  | with_reducible exact hx_c (hx_g1 c_4)
  | with_reducible exact hx_a1 (hz_1 hLv nhb nwb nkb f_1_1_0) (Or.inl c_4)
  | with_reducible exact hx_l (hx_g2 c_5)
  | with_reducible exact hx_z (hx_g2 c_5)
  | with_reducible exact hx_c (hx_g2 c_5)
  | with_reducible exact hx_a1 (hz_1 hLv nhb nwb nkb f_1_1_0) (Or.inr (i_nle.mp c_5))
  | with_reducible exact pr_1 (hrs_neg c_4 (hz_1 hLv nhb nwb nkb f_1_1_0) hj_6 nr5 nhb c_8)
  | with_reducible exact pr_2 (hrs_neg c_4 (hz_1 hLv nhb nwb nkb f_1_1_0) hj_6 nr5 nhb c_8)
  | with_reducible exact pr_3 (hrs_neg c_4 (hz_1 hLv nhb nwb nkb f_1_1_0) hj_6 nr5 nhb c_8)
  | with_reducible exact (hrs_nega c_4 (hz_1 hLv nhb nwb nkb f_1_1_0) hj_6 nr5 nhb c_8).symm
  | omega
set_option maxHeartbeats 60000 in
theorem lf_X7_hours_18 {nv0 : Int32} {nv1 : Int32} {nv2 : Int32} {nv3 : Int32} {nv5 : Int32} {nhh : Nat} {nww : Nat} {nkk : Nat} {ng1 : Nat → Int32} {ng2 : Nat → Int32} {ng3 : Nat → Int32} {ng4 : Nat → Int32} {ng5 : Nat → Int32} {q : Nat} {az : Nat} {fb : Nat → Option Nat} {ad : Nat → Nat} {V : Nat → Nat → Int32} {G : Nat → Nat → Nat → Int32} {k0 : Int32} (nhb : nhh ≤ 999) (nwb : nww ≤ 6) (nkb : nkk ≤ 6) (hLv : okLv (nrm nv0 nv1 nv2 nv3 nhh nv5 nww nkk ng1 ng2 ng3 ng4 ng5)) (hfb : ∀ i : Nat, i < 24 → fb i = some (ad i)) (hq : q < 24) (haz : az ≤ 24) (f_1_1_0 : 0 < nv0) (c_4 : ¬ (k0 < 1)) (c_5 : ¬ (k0 ≤ 24)) : (nrm nv0 nv1 nv2 nv3 nhh nv5 nww nkk ng1 ng2 ng3 ng4 ng5) = (s_hrs (nrm nv0 nv1 nv2 nv3 nhh nv5 nww nkk ng1 ng2 ng3 ng4 ng5) az (acX q az V G) k0).1 := by
  first
  | with_reducible exact hx_l (hx_g1 c_4)
  | with_reducible exact hx_z (hx_g1 c_4)
  | with_reducible exact hx_c (hx_g1 c_4)
  | with_reducible exact hx_a1 (hz_1 hLv nhb nwb nkb f_1_1_0) (Or.inl c_4)
  | with_reducible exact hx_l (hx_g2 c_5)
  | with_reducible exact hx_z (hx_g2 c_5)
  | with_reducible exact hx_c (hx_g2 c_5)
  | with_reducible exact hx_a1 (hz_1 hLv nhb nwb nkb f_1_1_0) (Or.inr (i_nle.mp c_5))
  | omega
set_option maxHeartbeats 60000 in
theorem lf_X7_hours_19 {nv0 : Int32} {nv1 : Int32} {nv2 : Int32} {nv3 : Int32} {nv5 : Int32} {nhh : Nat} {nww : Nat} {nkk : Nat} {ng1 : Nat → Int32} {ng2 : Nat → Int32} {ng3 : Nat → Int32} {ng4 : Nat → Int32} {ng5 : Nat → Int32} {q : Nat} {az : Nat} {fb : Nat → Option Nat} {ad : Nat → Nat} {V : Nat → Nat → Int32} {G : Nat → Nat → Nat → Int32} {k0 : Int32} (nhb : nhh ≤ 999) (nwb : nww ≤ 6) (nkb : nkk ≤ 6) (hLv : okLv (nrm nv0 nv1 nv2 nv3 nhh nv5 nww nkk ng1 ng2 ng3 ng4 ng5)) (hfb : ∀ i : Nat, i < 24 → fb i = some (ad i)) (hq : q < 24) (haz : az ≤ 24) (f_1_1_0 : 0 < nv0) (c_4 : ¬ (k0 < 1)) (c_5 : ¬ (k0 ≤ 24)) : az = (s_hrs (nrm nv0 nv1 nv2 nv3 nhh nv5 nww nkk ng1 ng2 ng3 ng4 ng5) az (acX q az V G) k0).2.1 := by
  first
  | with_reducible exact hx_l (hx_g1 c_4)
  | with_reducible exact hx_z (hx_g1 c_4)
  | with_reducible exact hx_c (hx_g1 c_4)
  | with_reducible exact hx_a1 (hz_1 hLv nhb nwb nkb f_1_1_0) (Or.inl c_4)
  | with_reducible exact hx_l (hx_g2 c_5)
  | with_reducible exact hx_z (hx_g2 c_5)
  | with_reducible exact hx_c (hx_g2 c_5)
  | with_reducible exact hx_a1 (hz_1 hLv nhb nwb nkb f_1_1_0) (Or.inr (i_nle.mp c_5))
  | omega
set_option maxHeartbeats 60000 in
theorem lf_X7_hours_20 {nv0 : Int32} {nv1 : Int32} {nv2 : Int32} {nv3 : Int32} {nv5 : Int32} {nhh : Nat} {nww : Nat} {nkk : Nat} {ng1 : Nat → Int32} {ng2 : Nat → Int32} {ng3 : Nat → Int32} {ng4 : Nat → Int32} {ng5 : Nat → Int32} {q : Nat} {az : Nat} {fb : Nat → Option Nat} {ad : Nat → Nat} {V : Nat → Nat → Int32} {G : Nat → Nat → Nat → Int32} {k0 : Int32} (nhb : nhh ≤ 999) (nwb : nww ≤ 6) (nkb : nkk ≤ 6) (hLv : okLv (nrm nv0 nv1 nv2 nv3 nhh nv5 nww nkk ng1 ng2 ng3 ng4 ng5)) (hfb : ∀ i : Nat, i < 24 → fb i = some (ad i)) (hq : q < 24) (haz : az ≤ 24) (f_1_1_0 : 0 < nv0) (c_4 : ¬ (k0 < 1)) (c_5 : ¬ (k0 ≤ 24)) : acX q az V G = (s_hrs (nrm nv0 nv1 nv2 nv3 nhh nv5 nww nkk ng1 ng2 ng3 ng4 ng5) az (acX q az V G) k0).2.2 := by
  first
  | with_reducible exact hx_l (hx_g1 c_4)
  | with_reducible exact hx_z (hx_g1 c_4)
  | with_reducible exact hx_c (hx_g1 c_4)
  | with_reducible exact hx_a1 (hz_1 hLv nhb nwb nkb f_1_1_0) (Or.inl c_4)
  | with_reducible exact hx_l (hx_g2 c_5)
  | with_reducible exact hx_z (hx_g2 c_5)
  | with_reducible exact hx_c (hx_g2 c_5)
  | with_reducible exact hx_a1 (hz_1 hLv nhb nwb nkb f_1_1_0) (Or.inr (i_nle.mp c_5))
  | omega
set_option maxHeartbeats 60000 in
theorem lf_X7_hours_21 {nv0 : Int32} {nv1 : Int32} {nv2 : Int32} {nv3 : Int32} {nv5 : Int32} {nhh : Nat} {nww : Nat} {nkk : Nat} {ng1 : Nat → Int32} {ng2 : Nat → Int32} {ng3 : Nat → Int32} {ng4 : Nat → Int32} {ng5 : Nat → Int32} {q : Nat} {az : Nat} {fb : Nat → Option Nat} {ad : Nat → Nat} {k0 : Int32} (nhb : nhh ≤ 999) (nwb : nww ≤ 6) (nkb : nkk ≤ 6) (hLv : okLv (nrm nv0 nv1 nv2 nv3 nhh nv5 nww nkk ng1 ng2 ng3 ng4 ng5)) (hfb : ∀ i : Nat, i < 24 → fb i = some (ad i)) (hq : q < 24) (haz : az ≤ 24) (f_1_1_0 : 0 < nv0) (c_4 : ¬ (k0 < 1)) (c_5 : ¬ (k0 ≤ 24)) : (-1000001) = (a_hrs (nrm nv0 nv1 nv2 nv3 nhh nv5 nww nkk ng1 ng2 ng3 ng4 ng5) k0) := by
  first
  | with_reducible exact hx_l (hx_g1 c_4)
  | with_reducible exact hx_z (hx_g1 c_4)
  | with_reducible exact hx_c (hx_g1 c_4)
  | with_reducible exact hx_a1 (hz_1 hLv nhb nwb nkb f_1_1_0) (Or.inl c_4)
  | with_reducible exact hx_l (hx_g2 c_5)
  | with_reducible exact hx_z (hx_g2 c_5)
  | with_reducible exact hx_c (hx_g2 c_5)
  | with_reducible exact hx_a1 (hz_1 hLv nhb nwb nkb f_1_1_0) (Or.inr (i_nle.mp c_5))
  | omega
set_option maxHeartbeats 4000000 in
set_option maxRecDepth 100000 in
theorem r_X7_hours (l : Launch) (dC : Nat → ClassId) (dI : Nat → Nat → Nat) (cI cZ cL cJ : ClassId) (sz : Nat) (x : Nat) (ro : Nat) (ta : Nat) (no : Nat) (ac : Nat) (im : Nat) (tr : Nat) (pl : Nat) (cs : Nat) (ak : Nat) (xf : Int32) (xg : Int32) (nv0 : Int32) (nv1 : Int32) (nv2 : Int32) (nv3 : Int32) (nv5 : Int32) (nhh : Nat) (nww : Nat) (nkk : Nat) (nb1 : Nat) (nb2 : Nat) (nb3 : Nat) (nb4 : Nat) (nb5 : Nat) (ng1 : Nat → Int32) (ng2 : Nat → Int32) (ng3 : Nat → Int32) (ng4 : Nat → Int32) (ng5 : Nat → Int32) (be : Nat) (q : Nat) (az : Nat) (fb : Nat → Option Nat) (ad : Nat → Nat) (bd : Nat → Nat → Nat) (V : Nat → Nat → Int32) (G : Nat → Nat → Nat → Int32) (k0 : Int32) (nhb : nhh ≤ 999) (nwb : nww ≤ 6) (nkb : nkk ≤ 6) (hLv : okLv (nrm nv0 nv1 nv2 nv3 nhh nv5 nww nkk ng1 ng2 ng3 ng4 ng5)) (hfb : ∀ i : Nat, i < 24 → fb i = some (ad i)) (hok : ∀ i : Nat, i < 24 → okL (V i)) (hq : q < 24) (haz : az ≤ 24) : Met l yX7_hours wsX7_hours ({ frames := 4, cells := 0, slots := 0, locals := 122 }) (va_Pc [.ref x, .int k0] (fun U => U.heap.size = sz ∧ va_P (dC, dI) vwCl (([(xo_7_rrrrrrrrrii x ro ta no ac im tr pl cs ak xf xg), (xo_3_iiiiiiiirrrrr no nv0 nv1 nv2 nv3 (nI nhh) nv5 (nI nww) (nI nkk) nb1 nb2 nb3 nb4 nb5), (xI nb1 cI 6 ng1), (xI nb2 cI 6 ng2), (xI nb3 cI 6 ng3), (xI nb4 cI 6 ng4), (xI nb5 cI 6 ng5), (xo_0_rii ac be (nI q) (nI az)), (xJ be cL 24 fb)] : va_W) ++ lvs cI 24 ad bd V G) U.heap ∧ va_K (dC, dI) vwCl [(cI, .int), (cZ, .boolean), (cL, .object RX3), (cJ, .array .int)] U ∧ va_D (fun _ => True) (([(xo_7_rrrrrrrrrii x ro ta no ac im tr pl cs ak xf xg), (xo_3_iiiiiiiirrrrr no nv0 nv1 nv2 nv3 (nI nhh) nv5 (nI nww) (nI nkk) nb1 nb2 nb3 nb4 nb5), (xI nb1 cI 6 ng1), (xI nb2 cI 6 ng2), (xI nb3 cI 6 ng3), (xI nb4 cI 6 ng4), (xI nb5 cI 6 ng5), (xo_0_rii ac be (nI q) (nI az)), (xJ be cL 24 fb)] : va_W) ++ lvs cI 24 ad bd V G))) (va_Qi (fun r (_ : Unit) => r = (a_hrs (nrm nv0 nv1 nv2 nv3 nhh nv5 nww nkk ng1 ng2 ng3 ng4 ng5) k0)) (fun (_ : Unit) t => ∃ (Vn : Nat → Nat → Int32) (Gn : Nat → Nat → Nat → Int32) (nv0n : Int32) (nv1n : Int32) (nv2n : Int32) (nv3n : Int32) (nv5n : Int32) (ng1n : Nat → Int32) (ng2n : Nat → Int32) (ng3n : Nat → Int32) (ng4n : Nat → Int32) (ng5n : Nat → Int32) (nhn : Nat) (nwn : Nat) (nkn : Nat) (qn : Nat) (azn : Nat), va_P (dC, dI) vwCl (([(xo_7_rrrrrrrrrii x ro ta no ac im tr pl cs ak xf xg), (xo_3_iiiiiiiirrrrr no nv0n nv1n nv2n nv3n (nI nhn) nv5n (nI nwn) (nI nkn) nb1 nb2 nb3 nb4 nb5), (xI nb1 cI 6 ng1n), (xI nb2 cI 6 ng2n), (xI nb3 cI 6 ng3n), (xI nb4 cI 6 ng4n), (xI nb5 cI 6 ng5n), (xo_0_rii ac be (nI qn) (nI azn)), (xJ be cL 24 fb)] : va_W) ++ lvs cI 24 ad bd Vn Gn) t.heap ∧ va_D (va_A (([(xo_7_rrrrrrrrrii x ro ta no ac im tr pl cs ak xf xg), (xo_3_iiiiiiiirrrrr no nv0 nv1 nv2 nv3 (nI nhh) nv5 (nI nww) (nI nkk) nb1 nb2 nb3 nb4 nb5), (xI nb1 cI 6 ng1), (xI nb2 cI 6 ng2), (xI nb3 cI 6 ng3), (xI nb4 cI 6 ng4), (xI nb5 cI 6 ng5), (xo_0_rii ac be (nI q) (nI az)), (xJ be cL 24 fb)] : va_W) ++ lvs cI 24 ad bd V G) sz) (([(xo_7_rrrrrrrrrii x ro ta no ac im tr pl cs ak xf xg), (xo_3_iiiiiiiirrrrr no nv0n nv1n nv2n nv3n (nI nhn) nv5n (nI nwn) (nI nkn) nb1 nb2 nb3 nb4 nb5), (xI nb1 cI 6 ng1n), (xI nb2 cI 6 ng2n), (xI nb3 cI 6 ng3n), (xI nb4 cI 6 ng4n), (xI nb5 cI 6 ng5n), (xo_0_rii ac be (nI qn) (nI azn)), (xJ be cL 24 fb)] : va_W) ++ lvs cI 24 ad bd Vn Gn) ∧ (∀ i : Nat, i < 24 → okL (Vn i)) ∧ qn < 24 ∧ azn ≤ 24 ∧ nhn ≤ 999 ∧ nwn ≤ 6 ∧ nkn ≤ 6 ∧ (nrm nv0n nv1n nv2n nv3n nhn nv5n nwn nkn ng1n ng2n ng3n ng4n ng5n) = (s_hrs (nrm nv0 nv1 nv2 nv3 nhh nv5 nww nkk ng1 ng2 ng3 ng4 ng5) az (acX q az V G) k0).1 ∧ azn = (s_hrs (nrm nv0 nv1 nv2 nv3 nhh nv5 nww nkk ng1 ng2 ng3 ng4 ng5) az (acX q az V G) k0).2.1 ∧ acX qn azn Vn Gn = (s_hrs (nrm nv0 nv1 nv2 nv3 nhh nv5 nww nkk ng1 ng2 ng3 ng4 ng5) az (acX q az V G) k0).2.2) (va_A (([(xo_7_rrrrrrrrrii x ro ta no ac im tr pl cs ak xf xg), (xo_3_iiiiiiiirrrrr no nv0 nv1 nv2 nv3 (nI nhh) nv5 (nI nww) (nI nkk) nb1 nb2 nb3 nb4 nb5), (xI nb1 cI 6 ng1), (xI nb2 cI 6 ng2), (xI nb3 cI 6 ng3), (xI nb4 cI 6 ng4), (xI nb5 cI 6 ng5), (xo_0_rii ac be (nI q) (nI az)), (xJ be cL 24 fb)] : va_W) ++ lvs cI 24 ad bd V G) sz)) 0 0 (va_A (([(xo_7_rrrrrrrrrii x ro ta no ac im tr pl cs ak xf xg), (xo_3_iiiiiiiirrrrr no nv0 nv1 nv2 nv3 (nI nhh) nv5 (nI nww) (nI nkk) nb1 nb2 nb3 nb4 nb5), (xI nb1 cI 6 ng1), (xI nb2 cI 6 ng2), (xI nb3 cI 6 ng3), (xI nb4 cI 6 ng4), (xI nb5 cI 6 ng5), (xo_0_rii ac be (nI q) (nI az)), (xJ be cL 24 fb)] : va_W) ++ lvs cI 24 ad bd V G) sz) := by
  refine Met.ofW (cc := cX7_hours) (maxL := 3) (ret := (some .int)) (by decide) rfl ?_
  intro p e s m args below meth c s₁ B hml hv
  obtain ⟨rfl, hsz, hP, hK, hD0⟩ := hv
  have hx := B.exec
  have hb := B.bytes
  have hr := B.returns
  have hts := atoms_spec (ws := wsX7_hours) B.pre
  have hown : s.vm.findClass RX7 = some m.cls := findClass_of_methodNamed B.named
  have hlocks := B.notSynchronized
  subst hsz
  have hD := hD0.self (sz := s.heap.size)
  generalize hAe : va_A (([(xo_7_rrrrrrrrrii x ro ta no ac im tr pl cs ak xf xg), (xo_3_iiiiiiiirrrrr no nv0 nv1 nv2 nv3 (nI nhh) nv5 (nI nww) (nI nkk) nb1 nb2 nb3 nb4 nb5), (xI nb1 cI 6 ng1), (xI nb2 cI 6 ng2), (xI nb3 cI 6 ng3), (xI nb4 cI 6 ng4), (xI nb5 cI 6 ng5), (xo_0_rii ac be (nI q) (nI az)), (xJ be cL 24 fb)] : va_W) ++ lvs cI 24 ad bd V G) s.heap.size = A at hD ⊢
  have hA : ∀ q : Nat, s.heap.size ≤ q → A q := fun q h => by rw [← hAe]; exact Or.inr h
  have hS : va_S A s.heap s.heap [] := va_S.rf
  have hP : va_P (dC, dI) vwCl (([(xo_7_rrrrrrrrrii x ro ta no ac im tr pl cs ak xf xg), (xo_3_iiiiiiiirrrrr no nv0 nv1 nv2 nv3 (nI nhh) nv5 (nI nww) (nI nkk) nb1 nb2 nb3 nb4 nb5), (xI nb1 cI 6 ng1), (xI nb2 cI 6 ng2), (xI nb3 cI 6 ng3), (xI nb4 cI 6 ng4), (xI nb5 cI 6 ng5), (xo_0_rii ac be (nI q) (nI az)), (xJ be cL 24 fb)] : va_W) ++ lvs cI 24 ad bd V G) s.heap := hP
  have hl := lv_entry ([.ref x, .int k0]) (n := 3) (Nat.le_of_ble_eq_true rfl)
  rw [lg_entry_eq]
  generalize (lg_sl ([.ref x, .int k0]) ++ List.replicate (3 - (lg_sl ([.ref x, .int k0])).length) Slot.unset).toArray = ls at hl ⊢
  have hl : lv_has ls 3 [(0, .ref x), (1, .int k0)] := hl
  refine lv_aload_n hx hb dX7_hours_0 rfl (lv_at hl 0 rfl) ?_
  refine va_get (D := (dC, dI)) (ci := 7) (v := .ref no) (C := RX7) (T := TX7) (N := 11) hx hb hts i_X7_hours_X7 hown hK hP 0 rfl rfl 2 (by decide) (hts _ mx_X7_hours_1) (fun _ h9 => h9) rfl dX7_hours_1 ?_
  have hPc_1 := hP.sub (ws' := [(xo_3_iiiiiiiirrrrr no nv0 nv1 nv2 nv3 (nI nhh) nv5 (nI nww) (nI nkk) nb1 nb2 nb3 nb4 nb5), (xI nb1 cI 6 ng1), (xI nb2 cI 6 ng2), (xI nb3 cI 6 ng3), (xI nb4 cI 6 ng4), (xI nb5 cI 6 ng5)]) [1, 2, 3, 4, 5, 6] rfl
  refine vp_callSi (W.runV (As := []) (rest := []) ⟨hx, hb, hml, hown, hts⟩ (r_X3_isTold l dC dI cI cZ cL cJ no nv0 nv1 nv2 nv3 nv5 nhh nww nkk nb1 nb2 nb3 nb4 nb5 ng1 ng2 ng3 ng4 ng5 (by omega) (by omega) (by omega)) (cwV 0 hts gX7_hours_X3_isTold rfl rfl rfl (by decide +kernel) ⟨Nat.le_of_ble_eq_true rfl, Nat.le_of_ble_eq_true rfl⟩) (pvP 3 1 hK hP rfl rfl hPc_1) rfl rfl hl.1 rfl (lv_room (Nat.le_of_ble_eq_true rfl)) dX7_hours_4 ⟨Nat.le_of_ble_eq_true rfl, Nat.le_of_ble_eq_true rfl⟩) (fun r_1 h_1 => ?_)
  rcases h_1 with ⟨h_1, f_1_0_0⟩ | ⟨h_1, f_1_1_0⟩
  · subst h_1
    refine lv_if_ne (tgt := 13) hx hb dX7_hours_7 (by decide) (fun c_ => absurd (by decide) c_) (fun _ => ?_)
    refine lv_ldc (own := RX7) (v := (-1000002)) hx hb hown (hts _ mx_X7_hours_2) dX7_hours_10 ?_
    have hX9 := cut2P (cx := [(xo_7_rrrrrrrrrii x ro ta no ac im tr pl cs ak xf xg), (xo_3_iiiiiiiirrrrr no nv0 nv1 nv2 nv3 (nI nhh) nv5 (nI nww) (nI nkk) nb1 nb2 nb3 nb4 nb5), (xI nb1 cI 6 ng1), (xI nb2 cI 6 ng2), (xI nb3 cI 6 ng3), (xI nb4 cI 6 ng4), (xI nb5 cI 6 ng5), (xo_0_rii ac be (nI q) (nI az)), (xJ be cL 24 fb)]) hP hD [0, 1, 2, 3, 4, 5, 6, 7, 8] (by decide +kernel) rfl
    exact W.iret (v := (-1000002)) hx hb hr (fun t ht hW => ⟨⟨(-1000002), (), rfl, (lf_X7_hours_4 nhb nwb nkb hLv hfb hq haz f_1_0_0), ⟨V, G, nv0, nv1, nv2, nv3, nv5, ng1, ng2, ng3, ng4, ng5, nhh, nww, nkk, q, az, va_Ht ht hX9.1, hX9.2, hok, (by omega), (by omega), (by omega), (by omega), (by omega), (lf_X7_hours_1 nhb nwb nkb hLv hfb hq haz f_1_0_0), (lf_X7_hours_2 nhb nwb nkb hLv hfb hq haz f_1_0_0), (lf_X7_hours_3 nhb nwb nkb hLv hfb hq haz f_1_0_0)⟩⟩, hS.F ht⟩) hS.2.2 dX7_hours_12
  · subst h_1
    refine lv_if_ne (tgt := 13) hx hb dX7_hours_7 (by decide) (fun _ => ?_) (fun c_ => absurd c_ (by decide))
    refine lv_iload_n hx hb dX7_hours_13 rfl (lv_at hl 1 rfl) ?_
    refine lv_iconst (v := 1) hx hb dX7_hours_14 (by decide) ?_
    refine lv_icmp_lt (tgt := 24) hx hb dX7_hours_15 (by decide) (fun c_4 => ?_) (fun c_4 => ?_)
    · skip
      refine lv_ldc (own := RX7) (v := (-1000001)) hx hb hown (hts _ mx_X7_hours_3) dX7_hours_24 ?_
      have hX9 := cut2P (cx := [(xo_7_rrrrrrrrrii x ro ta no ac im tr pl cs ak xf xg), (xo_3_iiiiiiiirrrrr no nv0 nv1 nv2 nv3 (nI nhh) nv5 (nI nww) (nI nkk) nb1 nb2 nb3 nb4 nb5), (xI nb1 cI 6 ng1), (xI nb2 cI 6 ng2), (xI nb3 cI 6 ng3), (xI nb4 cI 6 ng4), (xI nb5 cI 6 ng5), (xo_0_rii ac be (nI q) (nI az)), (xJ be cL 24 fb)]) hP hD [0, 1, 2, 3, 4, 5, 6, 7, 8] (by decide +kernel) rfl
      exact W.iret (v := (-1000001)) hx hb hr (fun t ht hW => ⟨⟨(-1000001), (), rfl, (lf_X7_hours_8 nhb nwb nkb hLv hfb hq haz f_1_1_0 c_4), ⟨V, G, nv0, nv1, nv2, nv3, nv5, ng1, ng2, ng3, ng4, ng5, nhh, nww, nkk, q, az, va_Ht ht hX9.1, hX9.2, hok, (by omega), (by omega), (by omega), (by omega), (by omega), (lf_X7_hours_5 nhb nwb nkb hLv hfb hq haz f_1_1_0 c_4), (lf_X7_hours_6 nhb nwb nkb hLv hfb hq haz f_1_1_0 c_4), (lf_X7_hours_7 nhb nwb nkb hLv hfb hq haz f_1_1_0 c_4)⟩⟩, hS.F ht⟩) hS.2.2 dX7_hours_26
    · skip
      refine lv_iload_n hx hb dX7_hours_18 rfl (lv_at hl 1 rfl) ?_
      refine lv_bipush (v := 24) hx hb dX7_hours_19 (by decide) ?_
      refine lv_icmp_le (tgt := 27) hx hb dX7_hours_21 (by decide) (fun c_5 => ?_) (fun c_5 => ?_)
      · skip
        obtain ⟨j_6, hj_6, rfl⟩ := nat_le (n := 24) (nn_1 c_4) rfl c_5 (by decide)
        refine lv_aload_n hx hb dX7_hours_27 rfl (lv_at hl 0 rfl) ?_
        refine va_get (D := (dC, dI)) (ci := 7) (v := .ref no) (C := RX7) (T := TX7) (N := 11) hx hb hts i_X7_hours_X7 hown hK hP 0 rfl rfl 2 (by decide) (hts _ mx_X7_hours_1) (fun _ h9 => h9) rfl dX7_hours_28 ?_
        refine va_get (D := (dC, dI)) (ci := 3) (v := .int (nI nhh)) (C := RX3) (T := TX3) (N := 13) hx hb hts i_X7_hours_X3 hown hK hP 1 rfl rfl 4 (by decide) (hts _ mx_X7_hours_4) (fun _ h9 => h9) rfl dX7_hours_31 ?_
        refine lv_iload_n hx hb dX7_hours_34 rfl (lv_at hl 1 rfl) ?_
        refine lv_iadd hx hb dX7_hours_35 ?_
        refine lv_topi (fun v_7 e_7 => ?_)
        obtain rfl : v_7 = (nI (nhh + j_6)) := (e_7).trans (nI_add nhh j_6)
        refine lv_sipush (v := 999) hx hb dX7_hours_36 (by decide) ?_
        refine lv_icmp_le (tgt := 45) hx hb dX7_hours_39 (by decide) (fun c_8 => ?_) (fun c_8 => ?_)
        · have c_8 : (nhh + j_6) ≤ 999 := (nI_leI (a := (nhh + j_6)) (b := 999) (by omega) (by omega)).mp c_8
          refine lv_iconst (v := 0) hx hb dX7_hours_45 (by decide) ?_
          refine lv_istore_n (lv' := [(2, .int 0), (0, .ref x), (1, .int (nI j_6))]) hx hb dX7_hours_46 rfl hl (by decide) rfl (fun ls hl => ?_)
          refine lp_go (σ := (Int32) × (Nat → Int32) × (Nat → Int32) × (Nat → Int32) × (Nat) × (Nat) × (Nat → Nat → Int32) × (Nat → Nat → Nat → Int32)) (fun ii (st : (Int32) × (Nat → Int32) × (Nat → Int32) × (Nat → Int32) × (Nat) × (Nat) × (Nat → Nat → Int32) × (Nat → Nat → Nat → Int32)) H locs ls => match st with | (w_14, w_15, w_16, w_17, w_18, w_19, w_20, w_21) => lv_has ls 3 [(2, .int (nI ii)), (0, .ref x), (1, .int (nI j_6))] ∧ va_P (dC, dI) vwCl (([(xo_7_rrrrrrrrrii x ro ta no ac im tr pl cs ak xf xg), (xo_3_iiiiiiiirrrrr no nv0 nv1 nv2 nv3 (nI (nhh + ii)) w_14 (nI nww) (nI nkk) nb1 nb2 nb3 nb4 nb5), (xI nb1 cI 6 ng1), (xI nb2 cI 6 ng2), (xI nb3 cI 6 w_15), (xI nb4 cI 6 w_16), (xI nb5 cI 6 w_17), (xo_0_rii ac be (nI w_18) (nI w_19)), (xJ be cL 24 fb)] : va_W) ++ lvs cI 24 ad bd w_20 w_21) H ∧ va_D A (([(xo_7_rrrrrrrrrii x ro ta no ac im tr pl cs ak xf xg), (xo_3_iiiiiiiirrrrr no nv0 nv1 nv2 nv3 (nI (nhh + ii)) w_14 (nI nww) (nI nkk) nb1 nb2 nb3 nb4 nb5), (xI nb1 cI 6 ng1), (xI nb2 cI 6 ng2), (xI nb3 cI 6 w_15), (xI nb4 cI 6 w_16), (xI nb5 cI 6 w_17), (xo_0_rii ac be (nI w_18) (nI w_19)), (xJ be cL 24 fb)] : va_W) ++ lvs cI 24 ad bd w_20 w_21) ∧ va_S A s.heap H locs ∧ (hrI ii (nrm nv0 nv1 nv2 nv3 nhh nv5 nww nkk ng1 ng2 ng3 ng4 ng5) az (acX q az V G) = ((nrm nv0 nv1 nv2 nv3 (nhh + ii) w_14 nww nkk ng1 ng2 w_15 w_16 w_17), w_19, acX w_18 w_19 w_20 w_21)) ∧ (∀ i : Nat, i < 24 → okL (w_20 i)) ∧ w_18 ≤ 23 ∧ w_19 ≤ 24) j_6 ?_ ?_ 0 (by omega) (nv5, ng3, ng4, ng5, q, az, V, G) ⟨lv_sub hl [0, 1, 2] rfl, hP.part (cx := [(xo_7_rrrrrrrrrii x ro ta no ac im tr pl cs ak xf xg), (xo_3_iiiiiiiirrrrr no nv0 nv1 nv2 nv3 (nI nhh) nv5 (nI nww) (nI nkk) nb1 nb2 nb3 nb4 nb5), (xI nb1 cI 6 ng1), (xI nb2 cI 6 ng2), (xI nb3 cI 6 ng3), (xI nb4 cI 6 ng4), (xI nb5 cI 6 ng5), (xo_0_rii ac be (nI q) (nI az)), (xJ be cL 24 fb)]) [0, 1, 2, 3, 4, 5, 6, 7, 8] rfl, hD.part (cx := [(xo_7_rrrrrrrrrii x ro ta no ac im tr pl cs ak xf xg), (xo_3_iiiiiiiirrrrr no nv0 nv1 nv2 nv3 (nI nhh) nv5 (nI nww) (nI nkk) nb1 nb2 nb3 nb4 nb5), (xI nb1 cI 6 ng1), (xI nb2 cI 6 ng2), (xI nb3 cI 6 ng3), (xI nb4 cI 6 ng4), (xI nb5 cI 6 ng5), (xo_0_rii ac be (nI q) (nI az)), (xJ be cL 24 fb)]) [0, 1, 2, 3, 4, 5, 6, 7, 8] (by decide +kernel) rfl, hS, rfl, hok, (by omega), (by omega)⟩
          · rintro ii ⟨w_14, w_15, w_16, w_17, w_18, w_19, w_20, w_21⟩ H locs ls hii ⟨hl, hP, hD, hS, haf_0, hok, hnb_w_18, hnb_w_19⟩ ih
            refine lv_iload_n hx hb dX7_hours_47 rfl (lv_at hl 0 rfl) ?_
            refine lv_iload_n hx hb dX7_hours_48 rfl (lv_at hl 2 rfl) ?_
            refine lv_icmp_ge (tgt := 76) hx hb dX7_hours_49 (by decide) (fun c_ => absurd c_ (fun q_ => absurd ((nI_leI (a := j_6) (b := ii) (by omega) (by omega)).mp q_) (by omega))) (fun _ => ?_)
            refine lv_aload_n hx hb dX7_hours_52 rfl (lv_at hl 1 rfl) ?_
            refine va_get (D := (dC, dI)) (ci := 7) (v := .ref ac) (C := RX7) (T := TX7) (N := 11) hx hb hts i_X7_hours_X7 hown hK hP 0 rfl rfl 3 (by decide) (hts _ mx_X7_hours_6) (fun _ h9 => h9) rfl dX7_hours_53 ?_
            refine lv_aload_n hx hb dX7_hours_56 rfl (lv_at hl 1 rfl) ?_
            refine va_get (D := (dC, dI)) (ci := 7) (v := .ref no) (C := RX7) (T := TX7) (N := 11) hx hb hts i_X7_hours_X7 hown hK hP 0 rfl rfl 2 (by decide) (hts _ mx_X7_hours_1) (fun _ h9 => h9) rfl dX7_hours_57 ?_
            have hc_34 := cutP (cx := [(xo_0_rii ac be (nI w_18) (nI w_19)), (xJ be cL 24 fb), (xo_3_iiiiiiiirrrrr no nv0 nv1 nv2 nv3 (nI (nhh + ii)) w_14 (nI nww) (nI nkk) nb1 nb2 nb3 nb4 nb5), (xI nb1 cI 6 ng1), (xI nb2 cI 6 ng2), (xI nb3 cI 6 w_15), (xI nb4 cI 6 w_16), (xI nb5 cI 6 w_17)]) hP hD hS hA [7, 8, 1, 2, 3, 4, 5, 6] (by decide +kernel) rfl
            refine va_callv (va_runV (As := [.ref no]) (rest := []) ⟨hx, hb, hml, hown, hts⟩ (r_X0_keep l dC dI cI cZ cL cJ H.size ac be w_18 w_19 fb ad bd w_20 w_21 no nv0 nv1 nv2 nv3 w_14 (nhh + ii) nww nkk nb1 nb2 nb3 nb4 nb5 ng1 ng2 w_15 w_16 w_17 (hfb) (hok) (by omega) (by omega) (by omega) (by omega) (by omega)) (cwV 1 hts gX7_hours_X0_keep rfl rfl rfl (by decide +kernel) ⟨Nat.le_of_ble_eq_true rfl, Nat.le_of_ble_eq_true rfl⟩) (pvW 0 7 hK hP rfl rfl hc_34) rfl rfl hl.1 rfl (lv_room (Nat.le_of_ble_eq_true rfl)) dX7_hours_60 ⟨Nat.le_of_ble_eq_true rfl, Nat.le_of_ble_eq_true rfl⟩) hS (fun q _ h => hc_34.2.2 q h) hc_34.2.2 (fun u_34 t_34 H1 locs ht hvm h_34 hB hz1 hk1 hS => ?_)
            refine xl_4_9 hB (fun Vn_34 Gn_34 qn_34 zn_34 hP1 hD1 hF_34_0 hF_34_1 hF_34_2 hF_34_3 hF_34_4 hF_34_5 hF_34_6 => ?_)
            clear hB
            rw [ht] at hP1
            obtain ⟨hP, hD⟩ := va_joinP (wr := [(xo_7_rrrrrrrrrii x ro ta no ac im tr pl cs ak xf xg)]) (rx := [(xo_0_rii ac be (nI qn_34) (nI zn_34)), (xJ be cL 24 fb), (xo_3_iiiiiiiirrrrr no nv0 nv1 nv2 nv3 (nI (nhh + ii)) w_14 (nI nww) (nI nkk) nb1 nb2 nb3 nb4 nb5), (xI nb1 cI 6 ng1), (xI nb2 cI 6 ng2), (xI nb3 cI 6 w_15), (xI nb4 cI 6 w_16), (xI nb5 cI 6 w_17)]) (pl1 := lvs cI 24 ad bd Vn_34 Gn_34) hP hD [7, 8, 1, 2, 3, 4, 5, 6] [0] rfl rfl (by decide +kernel) (by decide +kernel) hk1 hc_34.2.2 hP1 hD1
            generalize H1 = H at hP hS ⊢
            have hP : va_P (dC, dI) vwCl (([(xo_7_rrrrrrrrrii x ro ta no ac im tr pl cs ak xf xg), (xo_0_rii ac be (nI qn_34) (nI zn_34)), (xJ be cL 24 fb), (xo_3_iiiiiiiirrrrr no nv0 nv1 nv2 nv3 (nI (nhh + ii)) w_14 (nI nww) (nI nkk) nb1 nb2 nb3 nb4 nb5), (xI nb1 cI 6 ng1), (xI nb2 cI 6 ng2), (xI nb3 cI 6 w_15), (xI nb4 cI 6 w_16), (xI nb5 cI 6 w_17)] : va_W) ++ lvs cI 24 ad bd Vn_34 Gn_34) H := hP
            have hD := dto hP hD
            refine lv_aload_n hx hb dX7_hours_63 rfl (lv_at hl 1 rfl) ?_
            refine va_get (D := (dC, dI)) (ci := 7) (v := .ref no) (C := RX7) (T := TX7) (N := 11) hx hb hts i_X7_hours_X7 hown hK hP 0 rfl rfl 2 (by decide) (hts _ mx_X7_hours_1) (fun _ h9 => h9) rfl dX7_hours_64 ?_
            have hc_35 := cutX (wc := [(xo_3_iiiiiiiirrrrr no nv0 nv1 nv2 nv3 (nI (nhh + ii)) w_14 (nI nww) (nI nkk) nb1 nb2 nb3 nb4 nb5), (xI nb1 cI 6 ng1), (xI nb2 cI 6 ng2), (xI nb3 cI 6 w_15), (xI nb4 cI 6 w_16), (xI nb5 cI 6 w_17)]) hP hD hS hA [3, 4, 5, 6, 7, 8] (by decide +kernel) rfl
            refine va_callv (va_runV (As := []) (rest := []) ⟨hx, hb, hml, hown, hts⟩ (r_X3_pass l dC dI cI cZ cL cJ H.size no nv0 nv1 nv2 nv3 w_14 (nhh + ii) nww nkk nb1 nb2 nb3 nb4 nb5 ng1 ng2 w_15 w_16 w_17 (by omega) (by omega) (by omega)) (cwV 0 hts gX7_hours_X3_pass rfl rfl rfl (by decide +kernel) ⟨Nat.le_of_ble_eq_true rfl, Nat.le_of_ble_eq_true rfl⟩) (pvW 3 3 hK hP rfl rfl hc_35) rfl rfl hl.1 rfl (lv_room (Nat.le_of_ble_eq_true rfl)) dX7_hours_67 ⟨Nat.le_of_ble_eq_true rfl, Nat.le_of_ble_eq_true rfl⟩) hS (fun q _ h => hc_35.2.2 q h) hc_35.2.2 (fun u_35 t_35 H1 locs ht hvm h_35 hB hz1 hk1 hS => ?_)
            refine xl_4_3 hB (fun v5n_35 g3n_35 g4n_35 g5n_35 hP1 hD1 hF_35_0 => ?_)
            clear hB
            rw [ht] at hP1
            obtain ⟨hP, hD⟩ := va_joinQ (wr := [(xo_7_rrrrrrrrrii x ro ta no ac im tr pl cs ak xf xg), (xo_0_rii ac be (nI qn_34) (nI zn_34)), (xJ be cL 24 fb)]) (w1 := [(xo_3_iiiiiiiirrrrr no nv0 nv1 nv2 nv3 (nI ((nhh + ii) + 1)) v5n_35 (nI nww) (nI nkk) nb1 nb2 nb3 nb4 nb5), (xI nb1 cI 6 ng1), (xI nb2 cI 6 ng2), (xI nb3 cI 6 g3n_35), (xI nb4 cI 6 g4n_35), (xI nb5 cI 6 g5n_35)]) hP hD [3, 4, 5, 6, 7, 8] [0, 1, 2] rfl rfl (by decide +kernel) (by decide +kernel) hk1 hc_35.2.2 hP1 hD1
            generalize H1 = H at hP hS ⊢
            have hP : va_P (dC, dI) vwCl (([(xo_7_rrrrrrrrrii x ro ta no ac im tr pl cs ak xf xg), (xo_0_rii ac be (nI qn_34) (nI zn_34)), (xJ be cL 24 fb), (xo_3_iiiiiiiirrrrr no nv0 nv1 nv2 nv3 (nI ((nhh + ii) + 1)) v5n_35 (nI nww) (nI nkk) nb1 nb2 nb3 nb4 nb5), (xI nb1 cI 6 ng1), (xI nb2 cI 6 ng2), (xI nb3 cI 6 g3n_35), (xI nb4 cI 6 g4n_35), (xI nb5 cI 6 g5n_35)] : va_W) ++ lvs cI 24 ad bd Vn_34 Gn_34) H := hP
            have hD := dto hP hD
            refine lv_iinc (v := (nI (ii + 1))) (lv' := [(2, .int (nI (ii + 1))), (0, .ref x), (1, .int (nI j_6))]) hx hb dX7_hours_70 hl (k := 0) rfl (nI_add ii 1) (by decide) rfl (fun ls hl => ?_)
            refine lv_goto (tgt := 47) hx hb dX7_hours_73 (by decide) ?_
            exact ih (v5n_35, g3n_35, g4n_35, g5n_35, qn_34, zn_34, Vn_34, Gn_34) _ _ _ ⟨lv_sub hl [0, 1, 2] rfl, hP.part (cx := [(xo_7_rrrrrrrrrii x ro ta no ac im tr pl cs ak xf xg), (xo_3_iiiiiiiirrrrr no nv0 nv1 nv2 nv3 (nI ((nhh + ii) + 1)) v5n_35 (nI nww) (nI nkk) nb1 nb2 nb3 nb4 nb5), (xI nb1 cI 6 ng1), (xI nb2 cI 6 ng2), (xI nb3 cI 6 g3n_35), (xI nb4 cI 6 g4n_35), (xI nb5 cI 6 g5n_35), (xo_0_rii ac be (nI qn_34) (nI zn_34)), (xJ be cL 24 fb)]) [0, 3, 4, 5, 6, 7, 8, 1, 2] rfl, hD.part (cx := [(xo_7_rrrrrrrrrii x ro ta no ac im tr pl cs ak xf xg), (xo_3_iiiiiiiirrrrr no nv0 nv1 nv2 nv3 (nI ((nhh + ii) + 1)) v5n_35 (nI nww) (nI nkk) nb1 nb2 nb3 nb4 nb5), (xI nb1 cI 6 ng1), (xI nb2 cI 6 ng2), (xI nb3 cI 6 g3n_35), (xI nb4 cI 6 g4n_35), (xI nb5 cI 6 g5n_35), (xo_0_rii ac be (nI qn_34) (nI zn_34)), (xJ be cL 24 fb)]) [0, 3, 4, 5, 6, 7, 8, 1, 2] (by decide +kernel) rfl, hS, (lf_X7_hours_9 nhb nwb nkb hLv hfb hq haz f_1_1_0 c_4 c_5 hj_6 c_8 hii haf_0 hnb_w_18 hnb_w_19 hF_34_0 hF_34_1 hF_34_2 hF_34_3 hF_34_4 hF_34_5 hF_34_6 hF_35_0), hF_34_0, (by omega), (by omega)⟩
          · rintro ⟨w_14, w_15, w_16, w_17, w_18, w_19, w_20, w_21⟩ H locs ls ⟨hl, hP, hD, hS, haf_0, hok, hnb_w_18, hnb_w_19⟩
            refine lv_iload_n hx hb dX7_hours_47 rfl (lv_at hl 0 rfl) ?_
            refine lv_iload_n hx hb dX7_hours_48 rfl (lv_at hl 2 rfl) ?_
            refine lv_icmp_ge (tgt := 76) hx hb dX7_hours_49 (by decide) (fun _ => ?_) (fun c_ => absurd ((nI_leI (a := j_6) (b := j_6) (by omega) (by omega)).mpr (by omega)) c_)
            refine lv_aload_n hx hb dX7_hours_76 rfl (lv_at hl 1 rfl) ?_
            refine va_get (D := (dC, dI)) (ci := 7) (v := .ref no) (C := RX7) (T := TX7) (N := 11) hx hb hts i_X7_hours_X7 hown hK hP 0 rfl rfl 2 (by decide) (hts _ mx_X7_hours_1) (fun _ h9 => h9) rfl dX7_hours_77 ?_
            refine va_get (D := (dC, dI)) (ci := 3) (v := .int w_14) (C := RX3) (T := TX3) (N := 13) hx hb hts i_X7_hours_X3 hown hK hP 1 rfl rfl 5 (by decide) (hts _ mx_X7_hours_7) (fun _ h9 => h9) rfl dX7_hours_80 ?_
            have hX9 := cut2P (cx := [(xo_7_rrrrrrrrrii x ro ta no ac im tr pl cs ak xf xg), (xo_3_iiiiiiiirrrrr no nv0 nv1 nv2 nv3 (nI (nhh + j_6)) w_14 (nI nww) (nI nkk) nb1 nb2 nb3 nb4 nb5), (xI nb1 cI 6 ng1), (xI nb2 cI 6 ng2), (xI nb3 cI 6 w_15), (xI nb4 cI 6 w_16), (xI nb5 cI 6 w_17), (xo_0_rii ac be (nI w_18) (nI w_19)), (xJ be cL 24 fb)]) hP hD [0, 1, 2, 3, 4, 5, 6, 7, 8] (by decide +kernel) rfl
            exact W.iret (v := w_14) hx hb hr (fun t ht hW => ⟨⟨w_14, (), rfl, (lf_X7_hours_13 nhb nwb nkb hLv hfb hq haz f_1_1_0 c_4 c_5 hj_6 c_8 haf_0 hnb_w_18 hnb_w_19), ⟨w_20, w_21, nv0, nv1, nv2, nv3, w_14, ng1, ng2, w_15, w_16, w_17, (nhh + j_6), nww, nkk, w_18, w_19, va_Ht ht hX9.1, hX9.2, hok, (by omega), (by omega), (by omega), (by omega), (by omega), (lf_X7_hours_10 nhb nwb nkb hLv hfb hq haz f_1_1_0 c_4 c_5 hj_6 c_8 haf_0 hnb_w_18 hnb_w_19), (lf_X7_hours_11 nhb nwb nkb hLv hfb hq haz f_1_1_0 c_4 c_5 hj_6 c_8 haf_0 hnb_w_18 hnb_w_19), (lf_X7_hours_12 nhb nwb nkb hLv hfb hq haz f_1_1_0 c_4 c_5 hj_6 c_8 haf_0 hnb_w_18 hnb_w_19)⟩⟩, hS.F ht⟩) hS.2.2 dX7_hours_83
        · have c_8 : ¬ ((nhh + j_6) ≤ 999) := fun q_ => c_8 ((nI_leI (a := (nhh + j_6)) (b := 999) (by omega) (by omega)).mpr q_)
          refine lv_ldc (own := RX7) (v := (-1000003)) hx hb hown (hts _ mx_X7_hours_5) dX7_hours_42 ?_
          have hX9 := cut2P (cx := [(xo_7_rrrrrrrrrii x ro ta no ac im tr pl cs ak xf xg), (xo_3_iiiiiiiirrrrr no nv0 nv1 nv2 nv3 (nI nhh) nv5 (nI nww) (nI nkk) nb1 nb2 nb3 nb4 nb5), (xI nb1 cI 6 ng1), (xI nb2 cI 6 ng2), (xI nb3 cI 6 ng3), (xI nb4 cI 6 ng4), (xI nb5 cI 6 ng5), (xo_0_rii ac be (nI q) (nI az)), (xJ be cL 24 fb)]) hP hD [0, 1, 2, 3, 4, 5, 6, 7, 8] (by decide +kernel) rfl
          exact W.iret (v := (-1000003)) hx hb hr (fun t ht hW => ⟨⟨(-1000003), (), rfl, (lf_X7_hours_17 nhb nwb nkb hLv hfb hq haz f_1_1_0 c_4 c_5 hj_6 c_8), ⟨V, G, nv0, nv1, nv2, nv3, nv5, ng1, ng2, ng3, ng4, ng5, nhh, nww, nkk, q, az, va_Ht ht hX9.1, hX9.2, hok, (by omega), (by omega), (by omega), (by omega), (by omega), (lf_X7_hours_14 nhb nwb nkb hLv hfb hq haz f_1_1_0 c_4 c_5 hj_6 c_8), (lf_X7_hours_15 nhb nwb nkb hLv hfb hq haz f_1_1_0 c_4 c_5 hj_6 c_8), (lf_X7_hours_16 nhb nwb nkb hLv hfb hq haz f_1_1_0 c_4 c_5 hj_6 c_8)⟩⟩, hS.F ht⟩) hS.2.2 dX7_hours_44
      · skip
        refine lv_ldc (own := RX7) (v := (-1000001)) hx hb hown (hts _ mx_X7_hours_3) dX7_hours_24 ?_
        have hX9 := cut2P (cx := [(xo_7_rrrrrrrrrii x ro ta no ac im tr pl cs ak xf xg), (xo_3_iiiiiiiirrrrr no nv0 nv1 nv2 nv3 (nI nhh) nv5 (nI nww) (nI nkk) nb1 nb2 nb3 nb4 nb5), (xI nb1 cI 6 ng1), (xI nb2 cI 6 ng2), (xI nb3 cI 6 ng3), (xI nb4 cI 6 ng4), (xI nb5 cI 6 ng5), (xo_0_rii ac be (nI q) (nI az)), (xJ be cL 24 fb)]) hP hD [0, 1, 2, 3, 4, 5, 6, 7, 8] (by decide +kernel) rfl
        exact W.iret (v := (-1000001)) hx hb hr (fun t ht hW => ⟨⟨(-1000001), (), rfl, (lf_X7_hours_21 nhb nwb nkb hLv hfb hq haz f_1_1_0 c_4 c_5), ⟨V, G, nv0, nv1, nv2, nv3, nv5, ng1, ng2, ng3, ng4, ng5, nhh, nww, nkk, q, az, va_Ht ht hX9.1, hX9.2, hok, (by omega), (by omega), (by omega), (by omega), (by omega), (lf_X7_hours_18 nhb nwb nkb hLv hfb hq haz f_1_1_0 c_4 c_5), (lf_X7_hours_19 nhb nwb nkb hLv hfb hq haz f_1_1_0 c_4 c_5), (lf_X7_hours_20 nhb nwb nkb hLv hfb hq haz f_1_1_0 c_4 c_5)⟩⟩, hS.F ht⟩) hS.2.2 dX7_hours_26
-- 34.mill3c_d
theorem xim_k {r I : RF} {k j : Int32} (h : ¬ k = j) : n_image r I k j = I := by
  unfold n_image
  rw [if_neg (fun q => h q.1)]
theorem xim_0 {r I : RF} {k j : Int32} (h : r 0 = 0) : n_image r I k j = I := by
  unfold n_image
  rw [if_neg (fun q => q.2 h)]
theorem xim_go {r I : RF} {k : Int32} (h : ¬ r 0 = 0) : n_image r I k k = r := by
  unfold n_image
  rw [if_pos ⟨rfl, h⟩]
theorem xaim_b {r : RF} {k : Int32} (h : bd2 k) : a_image r k = -1000001 := by
  unfold a_image
  rw [if_pos h]
theorem xaim_0 {r : RF} {k : Int32} (hk : ¬ bd2 k) (h : r 0 = 0) : a_image r k = -1000002 := by
  unfold a_image
  rw [if_neg hk, if_pos h]
theorem xaim_go {r : RF} {k : Int32} (hk : ¬ bd2 k) (h : ¬ r 0 = 0) : a_image r k = 1 := by
  unfold a_image
  rw [if_neg hk, if_neg h]
theorem xpk_0 {I0 I1 : RF} : pkI I0 I1 0 = I0 := by
  unfold pkI
  rw [if_pos rfl]
theorem xpk_1 {I0 I1 : RF} : pkI I0 I1 1 = I1 := by
  unfold pkI
  rw [if_neg (by decide)]
theorem xrs_b {Lv I0 I1 : RF} {An : Nat} {k : Int32} (h : bd2 k) : n_rst Lv I0 I1 k = Lv ∧ m_rst An I0 I1 k = An ∧ a_rst I0 I1 k = -1000001 := by
  have g : ¬ gd_rst I0 I1 k := fun q => q.1 h
  unfold n_rst m_rst a_rst
  exact ⟨if_neg g, if_neg g, if_pos h⟩
theorem xrs_x0 {Lv I0 I1 : RF} {An : Nat} {k : Int32} (hk : ¬ bd2 k) (h : pkI I0 I1 k 0 = 0) : n_rst Lv I0 I1 k = Lv ∧ m_rst An I0 I1 k = An ∧ a_rst I0 I1 k = -1000002 := by
  have g : ¬ gd_rst I0 I1 k := fun q => q.2 h
  unfold n_rst m_rst a_rst
  refine ⟨if_neg g, if_neg g, ?_⟩
  rw [if_neg hk, if_pos h]
theorem xrs_x1 {Lv I0 I1 : RF} {An : Nat} {k : Int32} (hk : ¬ bd2 k) (h : ¬ pkI I0 I1 k 0 = 0) : n_rst Lv I0 I1 k = pkI I0 I1 k ∧ m_rst An I0 I1 k = 0 ∧ a_rst I0 I1 k = 1 := by
  have g : gd_rst I0 I1 k := ⟨hk, h⟩
  unfold n_rst m_rst a_rst
  refine ⟨if_pos g, if_pos g, ?_⟩
  rw [if_neg hk, if_neg h]
theorem xrs_00 {Lv I0 I1 : RF} {An : Nat} (h : I0 0 = 0) : n_rst Lv I0 I1 0 = Lv ∧ m_rst An I0 I1 0 = An ∧ a_rst I0 I1 0 = -1000002 := xrs_x0 (by decide) (by rw [xpk_0]; exact h)
theorem xrs_10 {Lv I0 I1 : RF} {An : Nat} (h : I1 0 = 0) : n_rst Lv I0 I1 1 = Lv ∧ m_rst An I0 I1 1 = An ∧ a_rst I0 I1 1 = -1000002 := xrs_x0 (by decide) (by rw [xpk_1]; exact h)
theorem xrs_01 {Lv I0 I1 : RF} {An : Nat} (h : ¬ I0 0 = 0) : n_rst Lv I0 I1 0 = I0 ∧ m_rst An I0 I1 0 = 0 ∧ a_rst I0 I1 0 = 1 := by
  have z := xrs_x1 (Lv := Lv) (An := An) (I0 := I0) (I1 := I1) (k := 0) (by decide) (by rw [xpk_0]; exact h)
  rw [xpk_0] at z
  exact z
theorem xrs_11 {Lv I0 I1 : RF} {An : Nat} (h : ¬ I1 0 = 0) : n_rst Lv I0 I1 1 = I1 ∧ m_rst An I0 I1 1 = 0 ∧ a_rst I0 I1 1 = 1 := by
  have z := xrs_x1 (Lv := Lv) (An := An) (I0 := I0) (I1 := I1) (k := 1) (by decide) (by rw [xpk_1]; exact h)
  rw [xpk_1] at z
  exact z
theorem dX7_image_0 : decode cX7_image 0 = .ok (.iload_n 1, 1) := dq_27 (by decide +kernel)
theorem dX7_image_1 : decode cX7_image 1 = .ok (.ifCond .lt 12, 3) := dq_155 (b1 := 0) (b2 := 12) (by decide +kernel) (by decide)
theorem dX7_image_10 : decode cX7_image 10 = .ok (.if_icmp .lt 6, 3) := dq_161 (b1 := 0) (b2 := 6) (by decide +kernel) (by decide)
theorem dX7_image_13 : decode cX7_image 13 = .ok (.ldc 72, 2) := dq_18 (b1 := 72) (by decide +kernel) (by decide)
theorem dX7_image_15 : decode cX7_image 15 = .ok (.ireturn, 1) := dq_172 (by decide +kernel)
theorem dX7_image_16 : decode cX7_image 16 = .ok (.aload_n 0, 1) := dq_42 (by decide +kernel)
theorem dX7_image_17 : decode cX7_image 17 = .ok (.getfield 26, 3) := dq_180 (b1 := 0) (b2 := 26) (by decide +kernel) (by decide)
theorem dX7_image_20 : decode cX7_image 20 = .ok (.invokevirtual 145, 3) := dq_182 (b1 := 0) (b2 := 145) (by decide +kernel) (by decide)
theorem dX7_image_23 : decode cX7_image 23 = .ok (.ifCond .ne 6, 3) := dq_154 (b1 := 0) (b2 := 6) (by decide +kernel) (by decide)
theorem dX7_image_26 : decode cX7_image 26 = .ok (.ldc 141, 2) := dq_18 (b1 := 141) (by decide +kernel) (by decide)
theorem dX7_image_28 : decode cX7_image 28 = .ok (.ireturn, 1) := dq_172 (by decide +kernel)
theorem dX7_image_29 : decode cX7_image 29 = .ok (.aload_n 0, 1) := dq_42 (by decide +kernel)
theorem dX7_image_30 : decode cX7_image 30 = .ok (.getfield 37, 3) := dq_180 (b1 := 0) (b2 := 37) (by decide +kernel) (by decide)
theorem dX7_image_33 : decode cX7_image 33 = .ok (.iload_n 1, 1) := dq_27 (by decide +kernel)
theorem dX7_image_34 : decode cX7_image 34 = .ok (.aaload, 1) := dq_50 (by decide +kernel)
theorem dX7_image_35 : decode cX7_image 35 = .ok (.aload_n 0, 1) := dq_42 (by decide +kernel)
theorem dX7_image_36 : decode cX7_image 36 = .ok (.getfield 26, 3) := dq_180 (b1 := 0) (b2 := 26) (by decide +kernel) (by decide)
theorem dX7_image_39 : decode cX7_image 39 = .ok (.invokevirtual 128, 3) := dq_182 (b1 := 0) (b2 := 128) (by decide +kernel) (by decide)
theorem dX7_image_4 : decode cX7_image 4 = .ok (.iload_n 1, 1) := dq_27 (by decide +kernel)
theorem dX7_image_42 : decode cX7_image 42 = .ok (.iconst 1, 1) := dq_4 (by decide +kernel)
theorem dX7_image_43 : decode cX7_image 43 = .ok (.ireturn, 1) := dq_172 (by decide +kernel)
theorem dX7_image_5 : decode cX7_image 5 = .ok (.aload_n 0, 1) := dq_42 (by decide +kernel)
theorem dX7_image_6 : decode cX7_image 6 = .ok (.getfield 37, 3) := dq_180 (b1 := 0) (b2 := 37) (by decide +kernel) (by decide)
theorem dX7_image_9 : decode cX7_image 9 = .ok (.arraylength, 1) := dq_190 (by decide +kernel)
theorem dX7_restore_0 : decode cX7_restore 0 = .ok (.iload_n 1, 1) := dq_27 (by decide +kernel)
theorem dX7_restore_1 : decode cX7_restore 1 = .ok (.ifCond .lt 12, 3) := dq_155 (b1 := 0) (b2 := 12) (by decide +kernel) (by decide)
theorem dX7_restore_10 : decode cX7_restore 10 = .ok (.if_icmp .lt 6, 3) := dq_161 (b1 := 0) (b2 := 6) (by decide +kernel) (by decide)
theorem dX7_restore_13 : decode cX7_restore 13 = .ok (.ldc 72, 2) := dq_18 (b1 := 72) (by decide +kernel) (by decide)
theorem dX7_restore_15 : decode cX7_restore 15 = .ok (.ireturn, 1) := dq_172 (by decide +kernel)
theorem dX7_restore_16 : decode cX7_restore 16 = .ok (.aload_n 0, 1) := dq_42 (by decide +kernel)
theorem dX7_restore_17 : decode cX7_restore 17 = .ok (.getfield 37, 3) := dq_180 (b1 := 0) (b2 := 37) (by decide +kernel) (by decide)
theorem dX7_restore_20 : decode cX7_restore 20 = .ok (.iload_n 1, 1) := dq_27 (by decide +kernel)
theorem dX7_restore_21 : decode cX7_restore 21 = .ok (.aaload, 1) := dq_50 (by decide +kernel)
theorem dX7_restore_22 : decode cX7_restore 22 = .ok (.invokevirtual 145, 3) := dq_182 (b1 := 0) (b2 := 145) (by decide +kernel) (by decide)
theorem dX7_restore_25 : decode cX7_restore 25 = .ok (.ifCond .ne 6, 3) := dq_154 (b1 := 0) (b2 := 6) (by decide +kernel) (by decide)
theorem dX7_restore_28 : decode cX7_restore 28 = .ok (.ldc 141, 2) := dq_18 (b1 := 141) (by decide +kernel) (by decide)
theorem dX7_restore_30 : decode cX7_restore 30 = .ok (.ireturn, 1) := dq_172 (by decide +kernel)
theorem dX7_restore_31 : decode cX7_restore 31 = .ok (.aload_n 0, 1) := dq_42 (by decide +kernel)
theorem dX7_restore_32 : decode cX7_restore 32 = .ok (.getfield 26, 3) := dq_180 (b1 := 0) (b2 := 26) (by decide +kernel) (by decide)
theorem dX7_restore_35 : decode cX7_restore 35 = .ok (.aload_n 0, 1) := dq_42 (by decide +kernel)
theorem dX7_restore_36 : decode cX7_restore 36 = .ok (.getfield 37, 3) := dq_180 (b1 := 0) (b2 := 37) (by decide +kernel) (by decide)
theorem dX7_restore_39 : decode cX7_restore 39 = .ok (.iload_n 1, 1) := dq_27 (by decide +kernel)
theorem dX7_restore_4 : decode cX7_restore 4 = .ok (.iload_n 1, 1) := dq_27 (by decide +kernel)
theorem dX7_restore_40 : decode cX7_restore 40 = .ok (.aaload, 1) := dq_50 (by decide +kernel)
theorem dX7_restore_41 : decode cX7_restore 41 = .ok (.invokevirtual 128, 3) := dq_182 (b1 := 0) (b2 := 128) (by decide +kernel) (by decide)
theorem dX7_restore_44 : decode cX7_restore 44 = .ok (.aload_n 0, 1) := dq_42 (by decide +kernel)
theorem dX7_restore_45 : decode cX7_restore 45 = .ok (.getfield 33, 3) := dq_180 (b1 := 0) (b2 := 33) (by decide +kernel) (by decide)
theorem dX7_restore_48 : decode cX7_restore 48 = .ok (.invokevirtual 132, 3) := dq_182 (b1 := 0) (b2 := 132) (by decide +kernel) (by decide)
theorem dX7_restore_5 : decode cX7_restore 5 = .ok (.aload_n 0, 1) := dq_42 (by decide +kernel)
theorem dX7_restore_51 : decode cX7_restore 51 = .ok (.iconst 1, 1) := dq_4 (by decide +kernel)
theorem dX7_restore_52 : decode cX7_restore 52 = .ok (.ireturn, 1) := dq_172 (by decide +kernel)
theorem dX7_restore_6 : decode cX7_restore 6 = .ok (.getfield 37, 3) := dq_180 (b1 := 0) (b2 := 37) (by decide +kernel) (by decide)
theorem dX7_restore_9 : decode cX7_restore 9 = .ok (.arraylength, 1) := dq_190 (by decide +kernel)
theorem mb_X7_image_wsX7_image_r1 {w : Cond} (h : w ∈ wsX7_image_r1) : w ∈ wsX7_image := by unfold wsX7_image; exact List.mem_cons_of_mem _ (List.mem_append_left _ (List.mem_append_left _ (List.mem_append_left _ (h))))
theorem mx_X7_image_14 : Cond.code yX3_becomeLike cX3_becomeLike 2 none ∈ wsX7_image := mb_X7_image_wsX7_image_r1 (List.mem_of_getElem? (i := 13) rfl)
theorem mx_X7_image_10 : Cond.fieldLink RX3 27 "MillTalk$Level" "cells" "I" ∈ wsX7_image := mb_X7_image_wsX7_image_r1 (List.mem_of_getElem? (i := 9) rfl)
theorem mx_X7_image_15 : Cond.fieldLink RX3 31 "MillTalk$Level" "mill" "I" ∈ wsX7_image := mb_X7_image_wsX7_image_r1 (List.mem_of_getElem? (i := 14) rfl)
theorem mx_X7_image_16 : Cond.fieldLink RX3 34 "MillTalk$Level" "reach" "I" ∈ wsX7_image := mb_X7_image_wsX7_image_r1 (List.mem_of_getElem? (i := 15) rfl)
theorem mx_X7_image_17 : Cond.fieldLink RX3 37 "MillTalk$Level" "cap" "I" ∈ wsX7_image := mb_X7_image_wsX7_image_r1 (List.mem_of_getElem? (i := 16) rfl)
theorem mx_X7_image_18 : Cond.fieldLink RX3 40 "MillTalk$Level" "hour" "I" ∈ wsX7_image := mb_X7_image_wsX7_image_r1 (List.mem_of_getElem? (i := 17) rfl)
theorem mx_X7_image_19 : Cond.fieldLink RX3 43 "MillTalk$Level" "meal" "I" ∈ wsX7_image := mb_X7_image_wsX7_image_r1 (List.mem_of_getElem? (i := 18) rfl)
theorem mx_X7_image_20 : Cond.fieldLink RX3 46 "MillTalk$Level" "windCount" "I" ∈ wsX7_image := mb_X7_image_wsX7_image_r1 (List.mem_of_getElem? (i := 19) rfl)
theorem mx_X7_image_21 : Cond.fieldLink RX3 49 "MillTalk$Level" "soundCount" "I" ∈ wsX7_image := mb_X7_image_wsX7_image_r1 (List.mem_of_getElem? (i := 20) rfl)
theorem mx_X7_image_22 : Cond.fieldLink RX3 9 "MillTalk$Level" "winds" "[I" ∈ wsX7_image := mb_X7_image_wsX7_image_r1 (List.mem_of_getElem? (i := 21) rfl)
theorem mx_X7_image_23 : Cond.methodLink RX3 52 arraycopyName ∈ wsX7_image := mb_X7_image_wsX7_image_r1 (List.mem_of_getElem? (i := 22) rfl)
theorem mx_X7_image_24 : Cond.native arraycopyName ∈ wsX7_image := mb_X7_image_wsX7_image_r1 (List.mem_of_getElem? (i := 23) rfl)
theorem mb_X7_image_wsX7_image_r2 {w : Cond} (h : w ∈ wsX7_image_r2) : w ∈ wsX7_image := by unfold wsX7_image; exact List.mem_cons_of_mem _ (List.mem_append_left _ (List.mem_append_left _ (List.mem_append_right _ (h))))
theorem mx_X7_image_25 : Cond.static arraycopyName ∈ wsX7_image := mb_X7_image_wsX7_image_r2 (List.mem_of_getElem? (i := 0) rfl)
theorem mx_X7_image_26 : Cond.initialized "java/lang/System" ∈ wsX7_image := mb_X7_image_wsX7_image_r2 (List.mem_of_getElem? (i := 1) rfl)
theorem mx_X7_image_27 : Cond.fieldLink RX3 15 "MillTalk$Level" "kinds" "[I" ∈ wsX7_image := mb_X7_image_wsX7_image_r2 (List.mem_of_getElem? (i := 2) rfl)
theorem mx_X7_image_28 : Cond.fieldLink RX3 18 "MillTalk$Level" "places" "[I" ∈ wsX7_image := mb_X7_image_wsX7_image_r2 (List.mem_of_getElem? (i := 3) rfl)
theorem mx_X7_image_29 : Cond.fieldLink RX3 21 "MillTalk$Level" "louds" "[I" ∈ wsX7_image := mb_X7_image_wsX7_image_r2 (List.mem_of_getElem? (i := 4) rfl)
theorem mx_X7_image_30 : Cond.fieldLink RX3 24 "MillTalk$Level" "hows" "[I" ∈ wsX7_image := mb_X7_image_wsX7_image_r2 (List.mem_of_getElem? (i := 5) rfl)
theorem mb_X7_image_wsX30 {w : Cond} (h : w ∈ wsX30) : w ∈ wsX7_image := by unfold wsX7_image; exact List.mem_cons_of_mem _ (List.mem_append_right _ (h))
theorem ggX7_image_X3_becomeLike : GoodIn wsX7_image wsX3_becomeLike := goodIn_sub (by unfold wsX3_becomeLike; exact List.forall_mem_cons.mpr ⟨mx_X7_image_14, List.forall_mem_append.mpr ⟨List.forall_mem_cons.mpr ⟨mx_X7_image_10, List.forall_mem_cons.mpr ⟨mx_X7_image_15, List.forall_mem_cons.mpr ⟨mx_X7_image_16, List.forall_mem_cons.mpr ⟨mx_X7_image_17, List.forall_mem_cons.mpr ⟨mx_X7_image_18, List.forall_mem_cons.mpr ⟨mx_X7_image_19, List.forall_mem_cons.mpr ⟨mx_X7_image_20, List.forall_mem_cons.mpr ⟨mx_X7_image_21, List.forall_mem_cons.mpr ⟨mx_X7_image_22, List.forall_mem_cons.mpr ⟨mx_X7_image_23, List.forall_mem_cons.mpr ⟨mx_X7_image_24, List.forall_mem_cons.mpr ⟨mx_X7_image_25, List.forall_mem_cons.mpr ⟨mx_X7_image_26, List.forall_mem_cons.mpr ⟨mx_X7_image_27, List.forall_mem_cons.mpr ⟨mx_X7_image_28, List.forall_mem_cons.mpr ⟨mx_X7_image_29, List.forall_mem_cons.mpr ⟨mx_X7_image_30, fun _ h_ => absurd h_ List.not_mem_nil⟩⟩⟩⟩⟩⟩⟩⟩⟩⟩⟩⟩⟩⟩⟩⟩⟩, (fun _ h_ => mb_X7_image_wsX30 h_)⟩⟩) (by decide +kernel)
theorem mx_X7_image_11 : Cond.methodLink RX7 128 yX3_becomeLike ∈ wsX7_image := mb_X7_image_wsX7_image_r1 (List.mem_of_getElem? (i := 10) rfl)
theorem mx_X7_image_12 : Cond.instanceMethod yX3_becomeLike ∈ wsX7_image := mb_X7_image_wsX7_image_r1 (List.mem_of_getElem? (i := 11) rfl)
theorem mx_X7_image_13 : Cond.selects RX3 yX3_becomeLike yX3_becomeLike ∈ wsX7_image := mb_X7_image_wsX7_image_r1 (List.mem_of_getElem? (i := 12) rfl)
theorem mx_X7_image_8 : Cond.initialized RX3 ∈ wsX7_image := mb_X7_image_wsX7_image_r1 (List.mem_of_getElem? (i := 7) rfl)
theorem gX7_image_X3_becomeLike : GoodIn wsX7_image (wsV RX7 128 RX3 yX3_becomeLike wsX3_becomeLike) := goodIn_app (goodIn_sub (List.forall_mem_cons.mpr ⟨mx_X7_image_11, List.forall_mem_cons.mpr ⟨mx_X7_image_12, List.forall_mem_cons.mpr ⟨mx_X7_image_13, List.forall_mem_cons.mpr ⟨mx_X7_image_8, fun _ h_ => absurd h_ List.not_mem_nil⟩⟩⟩⟩) (by decide +kernel)) ggX7_image_X3_becomeLike
theorem mx_X7_image_9 : Cond.code yX3_isTold cX3_isTold 1 (some .boolean) ∈ wsX7_image := mb_X7_image_wsX7_image_r1 (List.mem_of_getElem? (i := 8) rfl)
theorem ggX7_image_X3_isTold : GoodIn wsX7_image wsX3_isTold := goodIn_sub (by unfold wsX3_isTold; exact List.forall_mem_cons.mpr ⟨mx_X7_image_9, List.forall_mem_append.mpr ⟨List.forall_mem_cons.mpr ⟨mx_X7_image_10, fun _ h_ => absurd h_ List.not_mem_nil⟩, (fun _ h_ => mb_X7_image_wsX30 h_)⟩⟩) (by decide +kernel)
theorem mx_X7_image_5 : Cond.methodLink RX7 145 yX3_isTold ∈ wsX7_image := mb_X7_image_wsX7_image_r1 (List.mem_of_getElem? (i := 4) rfl)
theorem mx_X7_image_6 : Cond.instanceMethod yX3_isTold ∈ wsX7_image := mb_X7_image_wsX7_image_r1 (List.mem_of_getElem? (i := 5) rfl)
theorem mx_X7_image_7 : Cond.selects RX3 yX3_isTold yX3_isTold ∈ wsX7_image := mb_X7_image_wsX7_image_r1 (List.mem_of_getElem? (i := 6) rfl)
theorem gX7_image_X3_isTold : GoodIn wsX7_image (wsV RX7 145 RX3 yX3_isTold wsX3_isTold) := goodIn_app (goodIn_sub (List.forall_mem_cons.mpr ⟨mx_X7_image_5, List.forall_mem_cons.mpr ⟨mx_X7_image_6, List.forall_mem_cons.mpr ⟨mx_X7_image_7, List.forall_mem_cons.mpr ⟨mx_X7_image_8, fun _ h_ => absurd h_ List.not_mem_nil⟩⟩⟩⟩) (by decide +kernel)) ggX7_image_X3_isTold
theorem mb_X7_restore_wsX7_restore_r2 {w : Cond} (h : w ∈ wsX7_restore_r2) : w ∈ wsX7_restore := by unfold wsX7_restore; exact List.mem_cons_of_mem _ (List.mem_append_left _ (List.mem_append_left _ (List.mem_append_left _ (List.mem_append_right _ (h)))))
theorem mx_X7_restore_36 : Cond.code yX0_forget cX0_forget 1 none ∈ wsX7_restore := mb_X7_restore_wsX7_restore_r2 (List.mem_of_getElem? (i := 11) rfl)
theorem mx_X7_restore_37 : Cond.fieldLink RX0 16 "MillTalk$Acts" "size" "I" ∈ wsX7_restore := mb_X7_restore_wsX7_restore_r2 (List.mem_of_getElem? (i := 12) rfl)
theorem mb_X7_restore_wsX00 {w : Cond} (h : w ∈ wsX00) : w ∈ wsX7_restore := by unfold wsX7_restore; exact List.mem_cons_of_mem _ (List.mem_append_right _ (h))
theorem ggX7_restore_X0_forget : GoodIn wsX7_restore wsX0_forget := goodIn_sub (by unfold wsX0_forget; exact List.forall_mem_cons.mpr ⟨mx_X7_restore_36, List.forall_mem_append.mpr ⟨List.forall_mem_cons.mpr ⟨mx_X7_restore_37, fun _ h_ => absurd h_ List.not_mem_nil⟩, (fun _ h_ => mb_X7_restore_wsX00 h_)⟩⟩) (by decide +kernel)
theorem mx_X7_restore_32 : Cond.methodLink RX7 132 yX0_forget ∈ wsX7_restore := mb_X7_restore_wsX7_restore_r2 (List.mem_of_getElem? (i := 7) rfl)
theorem mx_X7_restore_33 : Cond.instanceMethod yX0_forget ∈ wsX7_restore := mb_X7_restore_wsX7_restore_r2 (List.mem_of_getElem? (i := 8) rfl)
theorem mx_X7_restore_34 : Cond.selects RX0 yX0_forget yX0_forget ∈ wsX7_restore := mb_X7_restore_wsX7_restore_r2 (List.mem_of_getElem? (i := 9) rfl)
theorem mx_X7_restore_35 : Cond.initialized RX0 ∈ wsX7_restore := mb_X7_restore_wsX7_restore_r2 (List.mem_of_getElem? (i := 10) rfl)
theorem gX7_restore_X0_forget : GoodIn wsX7_restore (wsV RX7 132 RX0 yX0_forget wsX0_forget) := goodIn_app (goodIn_sub (List.forall_mem_cons.mpr ⟨mx_X7_restore_32, List.forall_mem_cons.mpr ⟨mx_X7_restore_33, List.forall_mem_cons.mpr ⟨mx_X7_restore_34, List.forall_mem_cons.mpr ⟨mx_X7_restore_35, fun _ h_ => absurd h_ List.not_mem_nil⟩⟩⟩⟩) (by decide +kernel)) ggX7_restore_X0_forget
theorem mb_X7_restore_wsX7_restore_r1 {w : Cond} (h : w ∈ wsX7_restore_r1) : w ∈ wsX7_restore := by unfold wsX7_restore; exact List.mem_cons_of_mem _ (List.mem_append_left _ (List.mem_append_left _ (List.mem_append_left _ (List.mem_append_left _ (h)))))
theorem mx_X7_restore_15 : Cond.code yX3_becomeLike cX3_becomeLike 2 none ∈ wsX7_restore := mb_X7_restore_wsX7_restore_r1 (List.mem_of_getElem? (i := 14) rfl)
theorem mx_X7_restore_11 : Cond.fieldLink RX3 27 "MillTalk$Level" "cells" "I" ∈ wsX7_restore := mb_X7_restore_wsX7_restore_r1 (List.mem_of_getElem? (i := 10) rfl)
theorem mx_X7_restore_16 : Cond.fieldLink RX3 31 "MillTalk$Level" "mill" "I" ∈ wsX7_restore := mb_X7_restore_wsX7_restore_r1 (List.mem_of_getElem? (i := 15) rfl)
theorem mx_X7_restore_17 : Cond.fieldLink RX3 34 "MillTalk$Level" "reach" "I" ∈ wsX7_restore := mb_X7_restore_wsX7_restore_r1 (List.mem_of_getElem? (i := 16) rfl)
theorem mx_X7_restore_18 : Cond.fieldLink RX3 37 "MillTalk$Level" "cap" "I" ∈ wsX7_restore := mb_X7_restore_wsX7_restore_r1 (List.mem_of_getElem? (i := 17) rfl)
theorem mx_X7_restore_19 : Cond.fieldLink RX3 40 "MillTalk$Level" "hour" "I" ∈ wsX7_restore := mb_X7_restore_wsX7_restore_r1 (List.mem_of_getElem? (i := 18) rfl)
theorem mx_X7_restore_20 : Cond.fieldLink RX3 43 "MillTalk$Level" "meal" "I" ∈ wsX7_restore := mb_X7_restore_wsX7_restore_r1 (List.mem_of_getElem? (i := 19) rfl)
theorem mx_X7_restore_21 : Cond.fieldLink RX3 46 "MillTalk$Level" "windCount" "I" ∈ wsX7_restore := mb_X7_restore_wsX7_restore_r1 (List.mem_of_getElem? (i := 20) rfl)
theorem mx_X7_restore_22 : Cond.fieldLink RX3 49 "MillTalk$Level" "soundCount" "I" ∈ wsX7_restore := mb_X7_restore_wsX7_restore_r1 (List.mem_of_getElem? (i := 21) rfl)
theorem mx_X7_restore_23 : Cond.fieldLink RX3 9 "MillTalk$Level" "winds" "[I" ∈ wsX7_restore := mb_X7_restore_wsX7_restore_r1 (List.mem_of_getElem? (i := 22) rfl)
theorem mx_X7_restore_24 : Cond.methodLink RX3 52 arraycopyName ∈ wsX7_restore := mb_X7_restore_wsX7_restore_r1 (List.mem_of_getElem? (i := 23) rfl)
theorem mx_X7_restore_25 : Cond.native arraycopyName ∈ wsX7_restore := mb_X7_restore_wsX7_restore_r2 (List.mem_of_getElem? (i := 0) rfl)
theorem mx_X7_restore_26 : Cond.static arraycopyName ∈ wsX7_restore := mb_X7_restore_wsX7_restore_r2 (List.mem_of_getElem? (i := 1) rfl)
theorem mx_X7_restore_27 : Cond.initialized "java/lang/System" ∈ wsX7_restore := mb_X7_restore_wsX7_restore_r2 (List.mem_of_getElem? (i := 2) rfl)
theorem mx_X7_restore_28 : Cond.fieldLink RX3 15 "MillTalk$Level" "kinds" "[I" ∈ wsX7_restore := mb_X7_restore_wsX7_restore_r2 (List.mem_of_getElem? (i := 3) rfl)
theorem mx_X7_restore_29 : Cond.fieldLink RX3 18 "MillTalk$Level" "places" "[I" ∈ wsX7_restore := mb_X7_restore_wsX7_restore_r2 (List.mem_of_getElem? (i := 4) rfl)
theorem mx_X7_restore_30 : Cond.fieldLink RX3 21 "MillTalk$Level" "louds" "[I" ∈ wsX7_restore := mb_X7_restore_wsX7_restore_r2 (List.mem_of_getElem? (i := 5) rfl)
theorem mx_X7_restore_31 : Cond.fieldLink RX3 24 "MillTalk$Level" "hows" "[I" ∈ wsX7_restore := mb_X7_restore_wsX7_restore_r2 (List.mem_of_getElem? (i := 6) rfl)
theorem mb_X7_restore_wsX30 {w : Cond} (h : w ∈ wsX30) : w ∈ wsX7_restore := by unfold wsX7_restore; exact List.mem_cons_of_mem _ (List.mem_append_left _ (List.mem_append_right _ (h)))
theorem ggX7_restore_X3_becomeLike : GoodIn wsX7_restore wsX3_becomeLike := goodIn_sub (by unfold wsX3_becomeLike; exact List.forall_mem_cons.mpr ⟨mx_X7_restore_15, List.forall_mem_append.mpr ⟨List.forall_mem_cons.mpr ⟨mx_X7_restore_11, List.forall_mem_cons.mpr ⟨mx_X7_restore_16, List.forall_mem_cons.mpr ⟨mx_X7_restore_17, List.forall_mem_cons.mpr ⟨mx_X7_restore_18, List.forall_mem_cons.mpr ⟨mx_X7_restore_19, List.forall_mem_cons.mpr ⟨mx_X7_restore_20, List.forall_mem_cons.mpr ⟨mx_X7_restore_21, List.forall_mem_cons.mpr ⟨mx_X7_restore_22, List.forall_mem_cons.mpr ⟨mx_X7_restore_23, List.forall_mem_cons.mpr ⟨mx_X7_restore_24, List.forall_mem_cons.mpr ⟨mx_X7_restore_25, List.forall_mem_cons.mpr ⟨mx_X7_restore_26, List.forall_mem_cons.mpr ⟨mx_X7_restore_27, List.forall_mem_cons.mpr ⟨mx_X7_restore_28, List.forall_mem_cons.mpr ⟨mx_X7_restore_29, List.forall_mem_cons.mpr ⟨mx_X7_restore_30, List.forall_mem_cons.mpr ⟨mx_X7_restore_31, fun _ h_ => absurd h_ List.not_mem_nil⟩⟩⟩⟩⟩⟩⟩⟩⟩⟩⟩⟩⟩⟩⟩⟩⟩, (fun _ h_ => mb_X7_restore_wsX30 h_)⟩⟩) (by decide +kernel)
theorem mx_X7_restore_12 : Cond.methodLink RX7 128 yX3_becomeLike ∈ wsX7_restore := mb_X7_restore_wsX7_restore_r1 (List.mem_of_getElem? (i := 11) rfl)
theorem mx_X7_restore_13 : Cond.instanceMethod yX3_becomeLike ∈ wsX7_restore := mb_X7_restore_wsX7_restore_r1 (List.mem_of_getElem? (i := 12) rfl)
theorem mx_X7_restore_14 : Cond.selects RX3 yX3_becomeLike yX3_becomeLike ∈ wsX7_restore := mb_X7_restore_wsX7_restore_r1 (List.mem_of_getElem? (i := 13) rfl)
theorem mx_X7_restore_9 : Cond.initialized RX3 ∈ wsX7_restore := mb_X7_restore_wsX7_restore_r1 (List.mem_of_getElem? (i := 8) rfl)
theorem gX7_restore_X3_becomeLike : GoodIn wsX7_restore (wsV RX7 128 RX3 yX3_becomeLike wsX3_becomeLike) := goodIn_app (goodIn_sub (List.forall_mem_cons.mpr ⟨mx_X7_restore_12, List.forall_mem_cons.mpr ⟨mx_X7_restore_13, List.forall_mem_cons.mpr ⟨mx_X7_restore_14, List.forall_mem_cons.mpr ⟨mx_X7_restore_9, fun _ h_ => absurd h_ List.not_mem_nil⟩⟩⟩⟩) (by decide +kernel)) ggX7_restore_X3_becomeLike
theorem mx_X7_restore_10 : Cond.code yX3_isTold cX3_isTold 1 (some .boolean) ∈ wsX7_restore := mb_X7_restore_wsX7_restore_r1 (List.mem_of_getElem? (i := 9) rfl)
theorem ggX7_restore_X3_isTold : GoodIn wsX7_restore wsX3_isTold := goodIn_sub (by unfold wsX3_isTold; exact List.forall_mem_cons.mpr ⟨mx_X7_restore_10, List.forall_mem_append.mpr ⟨List.forall_mem_cons.mpr ⟨mx_X7_restore_11, fun _ h_ => absurd h_ List.not_mem_nil⟩, (fun _ h_ => mb_X7_restore_wsX30 h_)⟩⟩) (by decide +kernel)
theorem mx_X7_restore_6 : Cond.methodLink RX7 145 yX3_isTold ∈ wsX7_restore := mb_X7_restore_wsX7_restore_r1 (List.mem_of_getElem? (i := 5) rfl)
theorem mx_X7_restore_7 : Cond.instanceMethod yX3_isTold ∈ wsX7_restore := mb_X7_restore_wsX7_restore_r1 (List.mem_of_getElem? (i := 6) rfl)
theorem mx_X7_restore_8 : Cond.selects RX3 yX3_isTold yX3_isTold ∈ wsX7_restore := mb_X7_restore_wsX7_restore_r1 (List.mem_of_getElem? (i := 7) rfl)
theorem gX7_restore_X3_isTold : GoodIn wsX7_restore (wsV RX7 145 RX3 yX3_isTold wsX3_isTold) := goodIn_app (goodIn_sub (List.forall_mem_cons.mpr ⟨mx_X7_restore_6, List.forall_mem_cons.mpr ⟨mx_X7_restore_7, List.forall_mem_cons.mpr ⟨mx_X7_restore_8, List.forall_mem_cons.mpr ⟨mx_X7_restore_9, fun _ h_ => absurd h_ List.not_mem_nil⟩⟩⟩⟩) (by decide +kernel)) ggX7_restore_X3_isTold
theorem mb_X7_image_wsX70 {w : Cond} (h : w ∈ wsX70) : w ∈ wsX7_image := by unfold wsX7_image; exact List.mem_cons_of_mem _ (List.mem_append_left _ (List.mem_append_right _ (h)))
theorem i_X7_image_X7 : ∀ w ∈ u_ws RX7 TX7 11, w ∈ wsX7_image := fun _ h_ => mb_X7_image_wsX70 h_
theorem mb_X7_restore_wsX70 {w : Cond} (h : w ∈ wsX70) : w ∈ wsX7_restore := by unfold wsX7_restore; exact List.mem_cons_of_mem _ (List.mem_append_left _ (List.mem_append_left _ (List.mem_append_right _ (h))))
theorem i_X7_restore_X7 : ∀ w ∈ u_ws RX7 TX7 11, w ∈ wsX7_restore := fun _ h_ => mb_X7_restore_wsX70 h_
theorem mx_X7_image_2 : Cond.constant RX7 72 (-1000001) ∈ wsX7_image := mb_X7_image_wsX7_image_r1 (List.mem_of_getElem? (i := 1) rfl)
theorem mx_X7_image_1 : Cond.fieldLink RX7 37 "MillTalk" "images" "[LMillTalk$Level;" ∈ wsX7_image := mb_X7_image_wsX7_image_r1 (List.mem_of_getElem? (i := 0) rfl)
theorem mx_X7_image_3 : Cond.fieldLink RX7 26 "MillTalk" "now" "LMillTalk$Level;" ∈ wsX7_image := mb_X7_image_wsX7_image_r1 (List.mem_of_getElem? (i := 2) rfl)
theorem mx_X7_image_4 : Cond.constant RX7 141 (-1000002) ∈ wsX7_image := mb_X7_image_wsX7_image_r1 (List.mem_of_getElem? (i := 3) rfl)
theorem mx_X7_restore_2 : Cond.constant RX7 72 (-1000001) ∈ wsX7_restore := mb_X7_restore_wsX7_restore_r1 (List.mem_of_getElem? (i := 1) rfl)
theorem mx_X7_restore_1 : Cond.fieldLink RX7 37 "MillTalk" "images" "[LMillTalk$Level;" ∈ wsX7_restore := mb_X7_restore_wsX7_restore_r1 (List.mem_of_getElem? (i := 0) rfl)
theorem mx_X7_restore_3 : Cond.constant RX7 141 (-1000002) ∈ wsX7_restore := mb_X7_restore_wsX7_restore_r1 (List.mem_of_getElem? (i := 2) rfl)
theorem mx_X7_restore_4 : Cond.fieldLink RX7 26 "MillTalk" "now" "LMillTalk$Level;" ∈ wsX7_restore := mb_X7_restore_wsX7_restore_r1 (List.mem_of_getElem? (i := 3) rfl)
theorem mx_X7_restore_5 : Cond.fieldLink RX7 33 "MillTalk" "acts" "LMillTalk$Acts;" ∈ wsX7_restore := mb_X7_restore_wsX7_restore_r1 (List.mem_of_getElem? (i := 4) rfl)
