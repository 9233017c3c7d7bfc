/-! asks: the numbers that are left, what is answered -/
noncomputable abbrev T16 := Nat × RF
noncomputable def lvX (x : Int32) (s : T16) : T16 := if s.1 < 16 then (s.1 + 1, upd s.2 s.1 x) else s
noncomputable def bfX (a : Nat) (x : Int32) : Int32 := if x = 0 then (if a = 2 then 12 else if a = 4 then 13 else if a = 5 then 14 else 11) else (if a = 2 then 24 else if a = 3 then 22 else if a = 4 ∨ a = 5 then 23 else 21)
noncomputable abbrev R16 := Int32 × T16
noncomputable def bgX (nu : Int32) (a : Nat) (ce lo : Int32) : Nat → Int32 → T16 → R16
  | 0, _, s => (0, s)
  | n + 1, b, s =>
    if b = 10 then (lo, lvX b s)
    else if b = 11 then ((bgX nu a ce lo n 10 (lvX b s)).1 + (bgX nu a ce lo n (bfX a 1) (bgX nu a ce lo n 10 (lvX b s)).2).1, (bgX nu a ce lo n (bfX a 1) (bgX nu a ce lo n 10 (lvX b s)).2).2)
    else if b = 12 then (-(bgX nu a ce lo n 11 (lvX b s)).1, (bgX nu a ce lo n 11 (lvX b s)).2)
    else if b = 13 then ((bgX nu a ce lo n 10 (lvX b s)).1 - 100, (bgX nu a ce lo n 10 (lvX b s)).2)
    else if b = 14 then ((bgX nu a ce lo n 13 (lvX b s)).1 * 2, (bgX nu a ce lo n 13 (lvX b s)).2)
    else if b = 20 then (nu, lvX b s)
    else if b = 21 then ((bgX nu a ce lo n 20 (lvX b s)).1 + ce, (bgX nu a ce lo n 20 (lvX b s)).2)
    else if b = 22 then ((bgX nu a ce lo n 21 (lvX b s)).1 - 1000, (bgX nu a ce lo n 21 (lvX b s)).2)
    else if b = 23 then ((bgX nu a ce lo n 20 (lvX b s)).1 - (bgX nu a ce lo n (bfX a 0) (bgX nu a ce lo n 20 (lvX b s)).2).1, (bgX nu a ce lo n (bfX a 0) (bgX nu a ce lo n 20 (lvX b s)).2).2)
    else if b = 24 then ((bgX nu a ce lo n 21 (lvX b s)).1 * 2, (bgX nu a ce lo n 21 (lvX b s)).2)
    else (0, lvX b s)
/-! the other side's -/
noncomputable def lentM (f : RF) (w : Nat) (b : Int32) (s : T16) : R16 := (if b = 10 then f (32 + w) else nI w, lvX b s)
noncomputable def vmM (f : RF) (w : Nat) (s : T16) : R16 := ((lentM f w 20 (lvX 21 s)).1 + f (20 + w), (lentM f w 20 (lvX 21 s)).2)
noncomputable def dsM (f : RF) (w : Nat) (s : T16) : R16 := ((lentM f w 10 (lvX 13 s)).1 - 100, (lentM f w 10 (lvX 13 s)).2)
noncomputable def sdM (f : RF) (w : Nat) (s : T16) : R16 := if f (14 + w) = 5 then (2 * (dsM f w (lvX 14 s)).1, (dsM f w (lvX 14 s)).2) else dsM f w s
noncomputable def mkM (f : RF) (w : Nat) (s : T16) : R16 :=
  if f (14 + w) = 2 then (2 * (vmM f w (lvX 24 s)).1, (vmM f w (lvX 24 s)).2)
  else if f (14 + w) = 3 then ((vmM f w (lvX 22 s)).1 - 1000, (vmM f w (lvX 22 s)).2)
  else if f (14 + w) = 1 then vmM f w s
  else ((lentM f w 20 (lvX 23 s)).1 - (sdM f w (lentM f w 20 (lvX 23 s)).2).1, (sdM f w (lentM f w 20 (lvX 23 s)).2).2)
noncomputable def vsM (f : RF) (w : Nat) (s : T16) : R16 := ((lentM f w 10 (lvX 11 s)).1 + (mkM f w (lentM f w 10 (lvX 11 s)).2).1, (mkM f w (lentM f w 10 (lvX 11 s)).2).2)
noncomputable def szM (f : RF) (w : Nat) (s : T16) : R16 :=
  if f (14 + w) = 2 then (-(vsM f w (lvX 12 s)).1, (vsM f w (lvX 12 s)).2)
  else if 4 ≤ f (14 + w) then sdM f w s else vsM f w s
noncomputable def akM (f : RF) (w : Nat) (x : Int32) (s : T16) : R16 := if x = 0 then szM f w s else mkM f w s
section BG
variable {nu ce lo : Int32} {a n : Nat} {s : T16}
theorem bg10 : bgX nu a ce lo (n + 1) 10 s = (lo, lvX 10 s) := by
  unfold bgX
  rw [if_pos rfl]
theorem bg20 : bgX nu a ce lo (n + 1) 20 s = (nu, lvX 20 s) := by
  unfold bgX
  rw [if_neg (by decide), if_neg (by decide), if_neg (by decide), if_neg (by decide), if_neg (by decide), if_pos rfl]
theorem bg13 : bgX nu a ce lo (n + 2) 13 s = (lo - 100, lvX 10 (lvX 13 s)) := by
  rw [bgX]
  rw [if_neg (by decide), if_neg (by decide), if_neg (by decide), if_pos rfl, bg10]
theorem bg21 : bgX nu a ce lo (n + 2) 21 s = (nu + ce, lvX 20 (lvX 21 s)) := by
  rw [bgX]
  rw [if_neg (by decide), if_neg (by decide), if_neg (by decide), if_neg (by decide), if_neg (by decide), if_neg (by decide), if_pos rfl, bg20]
theorem bg14 : bgX nu a ce lo (n + 3) 14 s = ((lo - 100) * 2, lvX 10 (lvX 13 (lvX 14 s))) := by
  rw [bgX]
  rw [if_neg (by decide), if_neg (by decide), if_neg (by decide), if_neg (by decide), if_pos rfl, bg13]
theorem bg22 : bgX nu a ce lo (n + 3) 22 s = (nu + ce - 1000, lvX 20 (lvX 21 (lvX 22 s))) := by
  rw [bgX]
  rw [if_neg (by decide), if_neg (by decide), if_neg (by decide), if_neg (by decide), if_neg (by decide), if_neg (by decide), if_neg (by decide), if_pos rfl, bg21]
theorem bg24 : bgX nu a ce lo (n + 3) 24 s = ((nu + ce) * 2, lvX 20 (lvX 21 (lvX 24 s))) := by
  rw [bgX]
  rw [if_neg (by decide), if_neg (by decide), if_neg (by decide), if_neg (by decide), if_neg (by decide), if_neg (by decide), if_neg (by decide), if_neg (by decide), if_neg (by decide), if_pos rfl, bg21]
theorem bg11 : bgX nu a ce lo (n + 2) 11 s = (lo + (bgX nu a ce lo (n + 1) (bfX a 1) (lvX 10 (lvX 11 s))).1, (bgX nu a ce lo (n + 1) (bfX a 1) (lvX 10 (lvX 11 s))).2) := by
  rw [bgX]
  rw [if_neg (by decide), if_pos rfl, bg10]
theorem bg12 : bgX nu a ce lo (n + 1) 12 s = (-(bgX nu a ce lo n 11 (lvX 12 s)).1, (bgX nu a ce lo n 11 (lvX 12 s)).2) := by
  rw [bgX]
  rw [if_neg (by decide), if_neg (by decide), if_pos rfl]
theorem bg23 : bgX nu a ce lo (n + 2) 23 s = (nu - (bgX nu a ce lo (n + 1) (bfX a 0) (lvX 20 (lvX 23 s))).1, (bgX nu a ce lo (n + 1) (bfX a 0) (lvX 20 (lvX 23 s))).2) := by
  rw [bgX]
  rw [if_neg (by decide), if_neg (by decide), if_neg (by decide), if_neg (by decide), if_neg (by decide), if_neg (by decide), if_neg (by decide), if_neg (by decide), if_pos rfl, bg20]
end BG
theorem sdM_4 {f : RF} {w : Nat} {s : T16} (e : f (14 + w) = 4) : sdM f w s = (f (32 + w) - 100, lvX 10 (lvX 13 s)) := by
  unfold sdM dsM lentM
  rw [if_neg (by rw [e]; decide), if_pos rfl]
theorem sdM_5 {f : RF} {w : Nat} {s : T16} (e : f (14 + w) = 5) : sdM f w s = (2 * (f (32 + w) - 100), lvX 10 (lvX 13 (lvX 14 s))) := by
  unfold sdM dsM lentM
  rw [if_pos e, if_pos rfl]
theorem vmM_e {f : RF} {w : Nat} {s : T16} : vmM f w s = (nI w + f (20 + w), lvX 20 (lvX 21 s)) := by
  unfold vmM lentM
  rw [if_neg (by decide)]
theorem mkM_e {f : RF} {w a : Nat} {n : Nat} {s : T16} (h1 : 1 ≤ a) (h5 : a ≤ 5) (e : f (14 + w) = nI a) : bgX (nI w) a (f (20 + w)) (f (32 + w)) (n + 4) (bfX a 1) s = mkM f w s := by
  rcases (show a = 1 ∨ a = 2 ∨ a = 3 ∨ a = 4 ∨ a = 5 by omega) with rfl | rfl | rfl | rfl | rfl
  · have e1 : f (14 + w) = 1 := e
    unfold mkM
    rw [if_neg (by rw [e1]; decide), if_neg (by rw [e1]; decide), if_pos e1, vmM_e]
    exact bg21 (n := n + 2)
  · have e1 : f (14 + w) = 2 := e
    unfold mkM
    rw [if_pos e1, vmM_e, Int32.mul_comm]
    exact bg24 (n := n + 1)
  · have e1 : f (14 + w) = 3 := e
    unfold mkM
    rw [if_neg (by rw [e1]; decide), if_pos e1, vmM_e]
    exact bg22 (n := n + 1)
  · have e1 : f (14 + w) = 4 := e
    have b := bg23 (nu := nI w) (ce := f (20 + w)) (lo := f (32 + w)) (a := 4) (n := n + 2) (s := s)
    have c : bgX (nI w) 4 (f (20 + w)) (f (32 + w)) (n + 2 + 1) (bfX 4 0) (lvX 20 (lvX 23 s)) = _ := bg13 (n := n + 1)
    rw [c] at b
    unfold mkM
    rw [if_neg (by rw [e1]; decide), if_neg (by rw [e1]; decide), if_neg (by rw [e1]; decide), sdM_4 e1]
    unfold lentM
    rw [if_neg (by decide)]
    exact b
  · have e1 : f (14 + w) = 5 := e
    have b := bg23 (nu := nI w) (ce := f (20 + w)) (lo := f (32 + w)) (a := 5) (n := n + 2) (s := s)
    have c : bgX (nI w) 5 (f (20 + w)) (f (32 + w)) (n + 2 + 1) (bfX 5 0) (lvX 20 (lvX 23 s)) = _ := bg14 (n := n)
    rw [c] at b
    unfold mkM
    rw [if_neg (by rw [e1]; decide), if_neg (by rw [e1]; decide), if_neg (by rw [e1]; decide), sdM_5 e1, Int32.mul_comm 2]
    unfold lentM
    rw [if_neg (by decide)]
    exact b
theorem vsM_e {f : RF} {w a : Nat} {n : Nat} {s : T16} (h1 : 1 ≤ a) (h5 : a ≤ 5) (e : f (14 + w) = nI a) : bgX (nI w) a (f (20 + w)) (f (32 + w)) (n + 5) 11 s = vsM f w s := by
  have b := bg11 (nu := nI w) (ce := f (20 + w)) (lo := f (32 + w)) (a := a) (n := n + 3) (s := s)
  have c := mkM_e (n := n) (s := lvX 10 (lvX 11 s)) h1 h5 e
  have c' : bgX (nI w) a (f (20 + w)) (f (32 + w)) (n + 3 + 1) (bfX a 1) (lvX 10 (lvX 11 s)) = mkM f w (lvX 10 (lvX 11 s)) := c
  rw [c'] at b
  unfold vsM lentM
  rw [if_pos rfl]
  exact b
/-- the one and the other -/
theorem ak_eq {f : RF} {w a : Nat} {x : Int32} {s : T16} (h1 : 1 ≤ a) (h5 : a ≤ 5) (e : f (14 + w) = nI a) (hx : x = 0 ∨ x = 1) : bgX (nI w) a (f (20 + w)) (f (32 + w)) 16 (bfX a x) s = akM f w x s := by
  rcases hx with rfl | rfl
  · unfold akM
    rw [if_pos rfl]
    rcases (show a = 1 ∨ a = 2 ∨ a = 3 ∨ a = 4 ∨ a = 5 by omega) with rfl | rfl | rfl | rfl | rfl
    · have e1 : f (14 + w) = 1 := e
      unfold szM
      rw [if_neg (by rw [e1]; decide), if_neg (by rw [e1]; decide)]
      exact vsM_e (n := 11) h1 h5 e
    · have e1 : f (14 + w) = 2 := e
      have b := bg12 (nu := nI w) (ce := f (20 + w)) (lo := f (32 + w)) (a := 2) (n := 15) (s := s)
      have c : bgX (nI w) 2 (f (20 + w)) (f (32 + w)) 15 11 (lvX 12 s) = _ := vsM_e (n := 10) (s := lvX 12 s) h1 h5 e
      rw [c] at b
      unfold szM
      rw [if_pos e1]
      exact b
    · have e1 : f (14 + w) = 3 := e
      unfold szM
      rw [if_neg (by rw [e1]; decide), if_neg (by rw [e1]; decide)]
      exact vsM_e (n := 11) h1 h5 e
    · have e1 : f (14 + w) = 4 := e
      unfold szM
      rw [if_neg (by rw [e1]; decide), if_pos (by rw [e1]; decide), sdM_4 e1]
      exact bg13 (n := 14)
    · have e1 : f (14 + w) = 5 := e
      unfold szM
      rw [if_neg (by rw [e1]; decide), if_pos (by rw [e1]; decide), sdM_5 e1, Int32.mul_comm 2]
      exact bg14 (n := 13)
  · unfold akM
    rw [if_neg (by decide)]
    exact mkM_e (n := 12) h1 h5 e
noncomputable def a_ask (r : RF) (s w : Int32) (z : T16) : Int32 := if ¬ (¬ s < 0 ∧ ¬ r 4 ≤ s) ∨ ¬ (w = 0 ∨ w = 1) then -1000001 else (akM r s.toNatClampNeg w (0, z.2)).1
noncomputable def n_ask (r : RF) (s w : Int32) (z : T16) : T16 := if ¬ (¬ s < 0 ∧ ¬ r 4 ≤ s) ∨ ¬ (w = 0 ∨ w = 1) then z else (akM r s.toNatClampNeg w (0, z.2)).2
noncomputable def a_trc (z : T16) (i : Int32) : Int32 := if i < 0 ∨ nI z.1 ≤ i then -1000000 else z.2 i.toNatClampNeg
theorem dX1_answer_0 : decode cX1_answer 0 = .ok (.aload_n 0, 1) := dq_42 (by decide +kernel)
theorem dX1_answer_1 : decode cX1_answer 1 = .ok (.iconst 0, 1) := dq_3 (by decide +kernel)
theorem dX1_answer_10 : decode cX1_answer 10 = .ok (.aload_n 0, 1) := dq_42 (by decide +kernel)
theorem dX1_answer_11 : decode cX1_answer 11 = .ok (.aload_n 1, 1) := dq_43 (by decide +kernel)
theorem dX1_answer_12 : decode cX1_answer 12 = .ok (.getfield 22, 3) := dq_180 (b1 := 0) (b2 := 22) (by decide +kernel) (by decide)
theorem dX1_answer_15 : decode cX1_answer 15 = .ok (.iload_n 2, 1) := dq_28 (by decide +kernel)
theorem dX1_answer_16 : decode cX1_answer 16 = .ok (.iaload, 1) := dq_46 (by decide +kernel)
theorem dX1_answer_17 : decode cX1_answer 17 = .ok (.putfield 27, 3) := dq_181 (b1 := 0) (b2 := 27) (by decide +kernel) (by decide)
theorem dX1_answer_2 : decode cX1_answer 2 = .ok (.putfield 15, 3) := dq_181 (b1 := 0) (b2 := 15) (by decide +kernel) (by decide)
theorem dX1_answer_20 : decode cX1_answer 20 = .ok (.aload_n 0, 1) := dq_42 (by decide +kernel)
theorem dX1_answer_21 : decode cX1_answer 21 = .ok (.aload_n 1, 1) := dq_43 (by decide +kernel)
theorem dX1_answer_22 : decode cX1_answer 22 = .ok (.getfield 30, 3) := dq_180 (b1 := 0) (b2 := 30) (by decide +kernel) (by decide)
theorem dX1_answer_25 : decode cX1_answer 25 = .ok (.iload_n 2, 1) := dq_28 (by decide +kernel)
theorem dX1_answer_26 : decode cX1_answer 26 = .ok (.iaload, 1) := dq_46 (by decide +kernel)
theorem dX1_answer_27 : decode cX1_answer 27 = .ok (.putfield 33, 3) := dq_181 (b1 := 0) (b2 := 33) (by decide +kernel) (by decide)
theorem dX1_answer_30 : decode cX1_answer 30 = .ok (.aload_n 0, 1) := dq_42 (by decide +kernel)
theorem dX1_answer_31 : decode cX1_answer 31 = .ok (.aload_n 1, 1) := dq_43 (by decide +kernel)
theorem dX1_answer_32 : decode cX1_answer 32 = .ok (.getfield 36, 3) := dq_180 (b1 := 0) (b2 := 36) (by decide +kernel) (by decide)
theorem dX1_answer_35 : decode cX1_answer 35 = .ok (.iload_n 2, 1) := dq_28 (by decide +kernel)
theorem dX1_answer_36 : decode cX1_answer 36 = .ok (.iaload, 1) := dq_46 (by decide +kernel)
theorem dX1_answer_37 : decode cX1_answer 37 = .ok (.putfield 39, 3) := dq_181 (b1 := 0) (b2 := 39) (by decide +kernel) (by decide)
theorem dX1_answer_40 : decode cX1_answer 40 = .ok (.aload_n 0, 1) := dq_42 (by decide +kernel)
theorem dX1_answer_41 : decode cX1_answer 41 = .ok (.iload_n 3, 1) := dq_29 (by decide +kernel)
theorem dX1_answer_42 : decode cX1_answer 42 = .ok (.iconst 0, 1) := dq_3 (by decide +kernel)
theorem dX1_answer_43 : decode cX1_answer 43 = .ok (.invokevirtual 42, 3) := dq_182 (b1 := 0) (b2 := 42) (by decide +kernel) (by decide)
theorem dX1_answer_46 : decode cX1_answer 46 = .ok (.ireturn, 1) := dq_172 (by decide +kernel)
theorem dX1_answer_5 : decode cX1_answer 5 = .ok (.aload_n 0, 1) := dq_42 (by decide +kernel)
theorem dX1_answer_6 : decode cX1_answer 6 = .ok (.iload_n 2, 1) := dq_28 (by decide +kernel)
theorem dX1_answer_7 : decode cX1_answer 7 = .ok (.putfield 19, 3) := dq_181 (b1 := 0) (b2 := 19) (by decide +kernel) (by decide)
theorem dX1_askAnew_0 : decode cX1_askAnew 0 = .ok (.aload_n 0, 1) := dq_42 (by decide +kernel)
theorem dX1_askAnew_1 : decode cX1_askAnew 1 = .ok (.aload_n 0, 1) := dq_42 (by decide +kernel)
theorem dX1_askAnew_10 : decode cX1_askAnew 10 = .ok (.ireturn, 1) := dq_172 (by decide +kernel)
theorem dX1_askAnew_2 : decode cX1_askAnew 2 = .ok (.iload_n 1, 1) := dq_27 (by decide +kernel)
theorem dX1_askAnew_3 : decode cX1_askAnew 3 = .ok (.invokevirtual 46, 3) := dq_182 (b1 := 0) (b2 := 46) (by decide +kernel) (by decide)
theorem dX1_askAnew_6 : decode cX1_askAnew 6 = .ok (.iload_n 2, 1) := dq_28 (by decide +kernel)
theorem dX1_askAnew_7 : decode cX1_askAnew 7 = .ok (.invokevirtual 50, 3) := dq_182 (b1 := 0) (b2 := 50) (by decide +kernel) (by decide)
theorem dX1_begin_0 : decode cX1_begin 0 = .ok (.iload_n 2, 1) := dq_28 (by decide +kernel)
theorem dX1_begin_1 : decode cX1_begin 1 = .ok (.bipush 16, 2) := dq_16 (b1 := 16) (by decide +kernel) (by decide)
theorem dX1_begin_10 : decode cX1_begin 10 = .ok (.invokevirtual 62, 3) := dq_182 (b1 := 0) (b2 := 62) (by decide +kernel) (by decide)
theorem dX1_begin_100 : decode cX1_begin 100 = .ok (.iload_n 3, 1) := dq_29 (by decide +kernel)
theorem dX1_begin_101 : decode cX1_begin 101 = .ok (.invokevirtual 50, 3) := dq_182 (b1 := 0) (b2 := 50) (by decide +kernel) (by decide)
theorem dX1_begin_104 : decode cX1_begin 104 = .ok (.aload_n 0, 1) := dq_42 (by decide +kernel)
theorem dX1_begin_105 : decode cX1_begin 105 = .ok (.iconst 1, 1) := dq_4 (by decide +kernel)
theorem dX1_begin_106 : decode cX1_begin 106 = .ok (.iload_n 3, 1) := dq_29 (by decide +kernel)
theorem dX1_begin_107 : decode cX1_begin 107 = .ok (.invokevirtual 42, 3) := dq_182 (b1 := 0) (b2 := 42) (by decide +kernel) (by decide)
theorem dX1_begin_110 : decode cX1_begin 110 = .ok (.iadd, 1) := dq_96 (by decide +kernel)
theorem dX1_begin_111 : decode cX1_begin 111 = .ok (.ireturn, 1) := dq_172 (by decide +kernel)
theorem dX1_begin_112 : decode cX1_begin 112 = .ok (.aload_n 0, 1) := dq_42 (by decide +kernel)
theorem dX1_begin_113 : decode cX1_begin 113 = .ok (.bipush 11, 2) := dq_16 (b1 := 11) (by decide +kernel) (by decide)
theorem dX1_begin_115 : decode cX1_begin 115 = .ok (.iload_n 3, 1) := dq_29 (by decide +kernel)
theorem dX1_begin_116 : decode cX1_begin 116 = .ok (.invokevirtual 50, 3) := dq_182 (b1 := 0) (b2 := 50) (by decide +kernel) (by decide)
theorem dX1_begin_119 : decode cX1_begin 119 = .ok (.ineg, 1) := dq_116 (by decide +kernel)
theorem dX1_begin_120 : decode cX1_begin 120 = .ok (.ireturn, 1) := dq_172 (by decide +kernel)
theorem dX1_begin_121 : decode cX1_begin 121 = .ok (.aload_n 0, 1) := dq_42 (by decide +kernel)
theorem dX1_begin_122 : decode cX1_begin 122 = .ok (.bipush 10, 2) := dq_16 (b1 := 10) (by decide +kernel) (by decide)
theorem dX1_begin_124 : decode cX1_begin 124 = .ok (.iload_n 3, 1) := dq_29 (by decide +kernel)
theorem dX1_begin_125 : decode cX1_begin 125 = .ok (.invokevirtual 50, 3) := dq_182 (b1 := 0) (b2 := 50) (by decide +kernel) (by decide)
theorem dX1_begin_128 : decode cX1_begin 128 = .ok (.bipush 100, 2) := dq_16 (b1 := 100) (by decide +kernel) (by decide)
theorem dX1_begin_13 : decode cX1_begin 13 = .ok (.iload_n 2, 1) := dq_28 (by decide +kernel)
theorem dX1_begin_130 : decode cX1_begin 130 = .ok (.isub, 1) := dq_100 (by decide +kernel)
theorem dX1_begin_131 : decode cX1_begin 131 = .ok (.ireturn, 1) := dq_172 (by decide +kernel)
theorem dX1_begin_132 : decode cX1_begin 132 = .ok (.aload_n 0, 1) := dq_42 (by decide +kernel)
theorem dX1_begin_133 : decode cX1_begin 133 = .ok (.bipush 13, 2) := dq_16 (b1 := 13) (by decide +kernel) (by decide)
theorem dX1_begin_135 : decode cX1_begin 135 = .ok (.iload_n 3, 1) := dq_29 (by decide +kernel)
theorem dX1_begin_136 : decode cX1_begin 136 = .ok (.invokevirtual 50, 3) := dq_182 (b1 := 0) (b2 := 50) (by decide +kernel) (by decide)
theorem dX1_begin_139 : decode cX1_begin 139 = .ok (.iconst 2, 1) := dq_5 (by decide +kernel)
theorem dX1_begin_14 : decode cX1_begin 14 = .ok (.iconst 1, 1) := dq_4 (by decide +kernel)
theorem dX1_begin_140 : decode cX1_begin 140 = .ok (.imul, 1) := dq_104 (by decide +kernel)
theorem dX1_begin_141 : decode cX1_begin 141 = .ok (.ireturn, 1) := dq_172 (by decide +kernel)
theorem dX1_begin_142 : decode cX1_begin 142 = .ok (.aload_n 0, 1) := dq_42 (by decide +kernel)
theorem dX1_begin_143 : decode cX1_begin 143 = .ok (.getfield 19, 3) := dq_180 (b1 := 0) (b2 := 19) (by decide +kernel) (by decide)
theorem dX1_begin_146 : decode cX1_begin 146 = .ok (.ireturn, 1) := dq_172 (by decide +kernel)
theorem dX1_begin_147 : decode cX1_begin 147 = .ok (.aload_n 0, 1) := dq_42 (by decide +kernel)
theorem dX1_begin_148 : decode cX1_begin 148 = .ok (.bipush 20, 2) := dq_16 (b1 := 20) (by decide +kernel) (by decide)
theorem dX1_begin_15 : decode cX1_begin 15 = .ok (.iadd, 1) := dq_96 (by decide +kernel)
theorem dX1_begin_150 : decode cX1_begin 150 = .ok (.iload_n 3, 1) := dq_29 (by decide +kernel)
theorem dX1_begin_151 : decode cX1_begin 151 = .ok (.invokevirtual 50, 3) := dq_182 (b1 := 0) (b2 := 50) (by decide +kernel) (by decide)
theorem dX1_begin_154 : decode cX1_begin 154 = .ok (.aload_n 0, 1) := dq_42 (by decide +kernel)
theorem dX1_begin_155 : decode cX1_begin 155 = .ok (.getfield 33, 3) := dq_180 (b1 := 0) (b2 := 33) (by decide +kernel) (by decide)
theorem dX1_begin_158 : decode cX1_begin 158 = .ok (.iadd, 1) := dq_96 (by decide +kernel)
theorem dX1_begin_159 : decode cX1_begin 159 = .ok (.ireturn, 1) := dq_172 (by decide +kernel)
theorem dX1_begin_16 : decode cX1_begin 16 = .ok (.istore_n 3, 1) := dq_62 (by decide +kernel)
theorem dX1_begin_160 : decode cX1_begin 160 = .ok (.aload_n 0, 1) := dq_42 (by decide +kernel)
theorem dX1_begin_161 : decode cX1_begin 161 = .ok (.bipush 21, 2) := dq_16 (b1 := 21) (by decide +kernel) (by decide)
theorem dX1_begin_163 : decode cX1_begin 163 = .ok (.iload_n 3, 1) := dq_29 (by decide +kernel)
theorem dX1_begin_164 : decode cX1_begin 164 = .ok (.invokevirtual 50, 3) := dq_182 (b1 := 0) (b2 := 50) (by decide +kernel) (by decide)
theorem dX1_begin_167 : decode cX1_begin 167 = .ok (.sipush 1000, 3) := dq_17 (b1 := 3) (b2 := 232) (by decide +kernel) (by decide)
theorem dX1_begin_17 : decode cX1_begin 17 = .ok (.iload_n 1, 1) := dq_27 (by decide +kernel)
theorem dX1_begin_170 : decode cX1_begin 170 = .ok (.isub, 1) := dq_100 (by decide +kernel)
theorem dX1_begin_171 : decode cX1_begin 171 = .ok (.ireturn, 1) := dq_172 (by decide +kernel)
theorem dX1_begin_172 : decode cX1_begin 172 = .ok (.aload_n 0, 1) := dq_42 (by decide +kernel)
theorem dX1_begin_173 : decode cX1_begin 173 = .ok (.bipush 20, 2) := dq_16 (b1 := 20) (by decide +kernel) (by decide)
theorem dX1_begin_175 : decode cX1_begin 175 = .ok (.iload_n 3, 1) := dq_29 (by decide +kernel)
theorem dX1_begin_176 : decode cX1_begin 176 = .ok (.invokevirtual 50, 3) := dq_182 (b1 := 0) (b2 := 50) (by decide +kernel) (by decide)
theorem dX1_begin_179 : decode cX1_begin 179 = .ok (.aload_n 0, 1) := dq_42 (by decide +kernel)
theorem dX1_begin_18 : decode cX1_begin 18 = .ok (.tableswitch 179 10 24 #[74, 79, 94, 103, 114, 179, 179, 179, 179, 179, 124, 129, 142, 154, 169], 74) := by decide +kernel
theorem dX1_begin_180 : decode cX1_begin 180 = .ok (.iconst 0, 1) := dq_3 (by decide +kernel)
theorem dX1_begin_181 : decode cX1_begin 181 = .ok (.iload_n 3, 1) := dq_29 (by decide +kernel)
theorem dX1_begin_182 : decode cX1_begin 182 = .ok (.invokevirtual 42, 3) := dq_182 (b1 := 0) (b2 := 42) (by decide +kernel) (by decide)
theorem dX1_begin_185 : decode cX1_begin 185 = .ok (.isub, 1) := dq_100 (by decide +kernel)
theorem dX1_begin_186 : decode cX1_begin 186 = .ok (.ireturn, 1) := dq_172 (by decide +kernel)
theorem dX1_begin_187 : decode cX1_begin 187 = .ok (.aload_n 0, 1) := dq_42 (by decide +kernel)
theorem dX1_begin_188 : decode cX1_begin 188 = .ok (.bipush 21, 2) := dq_16 (b1 := 21) (by decide +kernel) (by decide)
theorem dX1_begin_190 : decode cX1_begin 190 = .ok (.iload_n 3, 1) := dq_29 (by decide +kernel)
theorem dX1_begin_191 : decode cX1_begin 191 = .ok (.invokevirtual 50, 3) := dq_182 (b1 := 0) (b2 := 50) (by decide +kernel) (by decide)
theorem dX1_begin_194 : decode cX1_begin 194 = .ok (.iconst 2, 1) := dq_5 (by decide +kernel)
theorem dX1_begin_195 : decode cX1_begin 195 = .ok (.imul, 1) := dq_104 (by decide +kernel)
theorem dX1_begin_196 : decode cX1_begin 196 = .ok (.ireturn, 1) := dq_172 (by decide +kernel)
theorem dX1_begin_197 : decode cX1_begin 197 = .ok (.iconst 0, 1) := dq_3 (by decide +kernel)
theorem dX1_begin_198 : decode cX1_begin 198 = .ok (.ireturn, 1) := dq_172 (by decide +kernel)
theorem dX1_begin_3 : decode cX1_begin 3 = .ok (.if_icmp .lt 5, 3) := dq_161 (b1 := 0) (b2 := 5) (by decide +kernel) (by decide)
theorem dX1_begin_6 : decode cX1_begin 6 = .ok (.iconst 0, 1) := dq_3 (by decide +kernel)
theorem dX1_begin_7 : decode cX1_begin 7 = .ok (.ireturn, 1) := dq_172 (by decide +kernel)
theorem dX1_begin_8 : decode cX1_begin 8 = .ok (.aload_n 0, 1) := dq_42 (by decide +kernel)
theorem dX1_begin_9 : decode cX1_begin 9 = .ok (.iload_n 1, 1) := dq_27 (by decide +kernel)
theorem dX1_begin_92 : decode cX1_begin 92 = .ok (.aload_n 0, 1) := dq_42 (by decide +kernel)
theorem dX1_begin_93 : decode cX1_begin 93 = .ok (.getfield 39, 3) := dq_180 (b1 := 0) (b2 := 39) (by decide +kernel) (by decide)
theorem dX1_begin_96 : decode cX1_begin 96 = .ok (.ireturn, 1) := dq_172 (by decide +kernel)
theorem dX1_begin_97 : decode cX1_begin 97 = .ok (.aload_n 0, 1) := dq_42 (by decide +kernel)
theorem dX1_begin_98 : decode cX1_begin 98 = .ok (.bipush 10, 2) := dq_16 (b1 := 10) (by decide +kernel) (by decide)
theorem dX1_bodyFor_0 : decode cX1_bodyFor 0 = .ok (.aload_n 0, 1) := dq_42 (by decide +kernel)
theorem dX1_bodyFor_1 : decode cX1_bodyFor 1 = .ok (.getfield 27, 3) := dq_180 (b1 := 0) (b2 := 27) (by decide +kernel) (by decide)
theorem dX1_bodyFor_11 : decode cX1_bodyFor 11 = .ok (.arraylength, 1) := dq_190 (by decide +kernel)
theorem dX1_bodyFor_12 : decode cX1_bodyFor 12 = .ok (.if_icmp .ge 54, 3) := dq_162 (b1 := 0) (b2 := 54) (by decide +kernel) (by decide)
theorem dX1_bodyFor_15 : decode cX1_bodyFor 15 = .ok (.iload_n 2, 1) := dq_28 (by decide +kernel)
theorem dX1_bodyFor_16 : decode cX1_bodyFor 16 = .ok (.ifCond .le 50, 3) := dq_158 (b1 := 0) (b2 := 50) (by decide +kernel) (by decide)
theorem dX1_bodyFor_19 : decode cX1_bodyFor 19 = .ok (.iload_n 2, 1) := dq_28 (by decide +kernel)
theorem dX1_bodyFor_20 : decode cX1_bodyFor 20 = .ok (.getstatic 53, 3) := dq_178 (b1 := 0) (b2 := 53) (by decide +kernel) (by decide)
theorem dX1_bodyFor_23 : decode cX1_bodyFor 23 = .ok (.arraylength, 1) := dq_190 (by decide +kernel)
theorem dX1_bodyFor_24 : decode cX1_bodyFor 24 = .ok (.if_icmp .ge 42, 3) := dq_162 (b1 := 0) (b2 := 42) (by decide +kernel) (by decide)
theorem dX1_bodyFor_27 : decode cX1_bodyFor 27 = .ok (.iload_n 1, 1) := dq_27 (by decide +kernel)
theorem dX1_bodyFor_28 : decode cX1_bodyFor 28 = .ok (.ifCond .ne 11, 3) := dq_154 (b1 := 0) (b2 := 11) (by decide +kernel) (by decide)
theorem dX1_bodyFor_31 : decode cX1_bodyFor 31 = .ok (.getstatic 56, 3) := dq_178 (b1 := 0) (b2 := 56) (by decide +kernel) (by decide)
theorem dX1_bodyFor_34 : decode cX1_bodyFor 34 = .ok (.iload_n 2, 1) := dq_28 (by decide +kernel)
theorem dX1_bodyFor_35 : decode cX1_bodyFor 35 = .ok (.iaload, 1) := dq_46 (by decide +kernel)
theorem dX1_bodyFor_36 : decode cX1_bodyFor 36 = .ok (.goto 8, 3) := dq_167 (b1 := 0) (b2 := 8) (by decide +kernel) (by decide)
theorem dX1_bodyFor_39 : decode cX1_bodyFor 39 = .ok (.getstatic 59, 3) := dq_178 (b1 := 0) (b2 := 59) (by decide +kernel) (by decide)
theorem dX1_bodyFor_4 : decode cX1_bodyFor 4 = .ok (.istore_n 2, 1) := dq_61 (by decide +kernel)
theorem dX1_bodyFor_42 : decode cX1_bodyFor 42 = .ok (.iload_n 2, 1) := dq_28 (by decide +kernel)
theorem dX1_bodyFor_43 : decode cX1_bodyFor 43 = .ok (.iaload, 1) := dq_46 (by decide +kernel)
theorem dX1_bodyFor_44 : decode cX1_bodyFor 44 = .ok (.istore 4, 2) := dq_54 (b1 := 4) (by decide +kernel) (by decide)
theorem dX1_bodyFor_46 : decode cX1_bodyFor 46 = .ok (.iload 4, 2) := dq_21 (b1 := 4) (by decide +kernel) (by decide)
theorem dX1_bodyFor_48 : decode cX1_bodyFor 48 = .ok (.ifCond .eq 6, 3) := dq_153 (b1 := 0) (b2 := 6) (by decide +kernel) (by decide)
theorem dX1_bodyFor_5 : decode cX1_bodyFor 5 = .ok (.iconst 0, 1) := dq_3 (by decide +kernel)
theorem dX1_bodyFor_51 : decode cX1_bodyFor 51 = .ok (.iload 4, 2) := dq_21 (b1 := 4) (by decide +kernel) (by decide)
theorem dX1_bodyFor_53 : decode cX1_bodyFor 53 = .ok (.ireturn, 1) := dq_172 (by decide +kernel)
theorem dX1_bodyFor_54 : decode cX1_bodyFor 54 = .ok (.getstatic 53, 3) := dq_178 (b1 := 0) (b2 := 53) (by decide +kernel) (by decide)
theorem dX1_bodyFor_57 : decode cX1_bodyFor 57 = .ok (.iload_n 2, 1) := dq_28 (by decide +kernel)
theorem dX1_bodyFor_58 : decode cX1_bodyFor 58 = .ok (.iaload, 1) := dq_46 (by decide +kernel)
theorem dX1_bodyFor_59 : decode cX1_bodyFor 59 = .ok (.istore_n 2, 1) := dq_61 (by decide +kernel)
theorem dX1_bodyFor_6 : decode cX1_bodyFor 6 = .ok (.istore_n 3, 1) := dq_62 (by decide +kernel)
theorem dX1_bodyFor_60 : decode cX1_bodyFor 60 = .ok (.iinc 3 1, 3) := dq_132 (b1 := 3) (b2 := 1) (by decide +kernel) (by decide) (by decide)
theorem dX1_bodyFor_63 : decode cX1_bodyFor 63 = .ok (.goto (-56), 3) := dq_167 (b1 := 255) (b2 := 200) (by decide +kernel) (by decide)
theorem dX1_bodyFor_7 : decode cX1_bodyFor 7 = .ok (.iload_n 3, 1) := dq_29 (by decide +kernel)
theorem dX1_bodyFor_8 : decode cX1_bodyFor 8 = .ok (.getstatic 53, 3) := dq_178 (b1 := 0) (b2 := 53) (by decide +kernel) (by decide)
theorem dX1_isAsk_0 : decode cX1_isAsk 0 = .ok (.iload_n 0, 1) := dq_26 (by decide +kernel)
theorem dX1_isAsk_1 : decode cX1_isAsk 1 = .ok (.ifCond .eq 8, 3) := dq_153 (b1 := 0) (b2 := 8) (by decide +kernel) (by decide)
theorem dX1_isAsk_10 : decode cX1_isAsk 10 = .ok (.goto 4, 3) := dq_167 (b1 := 0) (b2 := 4) (by decide +kernel) (by decide)
theorem dX1_isAsk_13 : decode cX1_isAsk 13 = .ok (.iconst 0, 1) := dq_3 (by decide +kernel)
theorem dX1_isAsk_14 : decode cX1_isAsk 14 = .ok (.ireturn, 1) := dq_172 (by decide +kernel)
theorem dX1_isAsk_4 : decode cX1_isAsk 4 = .ok (.iload_n 0, 1) := dq_26 (by decide +kernel)
theorem dX1_isAsk_5 : decode cX1_isAsk 5 = .ok (.iconst 1, 1) := dq_4 (by decide +kernel)
theorem dX1_isAsk_6 : decode cX1_isAsk 6 = .ok (.if_icmp .ne 7, 3) := dq_160 (b1 := 0) (b2 := 7) (by decide +kernel) (by decide)
theorem dX1_isAsk_9 : decode cX1_isAsk 9 = .ok (.iconst 1, 1) := dq_4 (by decide +kernel)
theorem dX1_leave_0 : decode cX1_leave 0 = .ok (.aload_n 0, 1) := dq_42 (by decide +kernel)
theorem dX1_leave_1 : decode cX1_leave 1 = .ok (.getfield 15, 3) := dq_180 (b1 := 0) (b2 := 15) (by decide +kernel) (by decide)
theorem dX1_leave_10 : decode cX1_leave 10 = .ok (.getfield 11, 3) := dq_180 (b1 := 0) (b2 := 11) (by decide +kernel) (by decide)
theorem dX1_leave_13 : decode cX1_leave 13 = .ok (.aload_n 0, 1) := dq_42 (by decide +kernel)
theorem dX1_leave_14 : decode cX1_leave 14 = .ok (.getfield 15, 3) := dq_180 (b1 := 0) (b2 := 15) (by decide +kernel) (by decide)
theorem dX1_leave_17 : decode cX1_leave 17 = .ok (.iload_n 1, 1) := dq_27 (by decide +kernel)
theorem dX1_leave_18 : decode cX1_leave 18 = .ok (.iastore, 1) := dq_79 (by decide +kernel)
theorem dX1_leave_19 : decode cX1_leave 19 = .ok (.aload_n 0, 1) := dq_42 (by decide +kernel)
theorem dX1_leave_20 : decode cX1_leave 20 = .ok (.dup, 1) := dq_89 (by decide +kernel)
theorem dX1_leave_21 : decode cX1_leave 21 = .ok (.getfield 15, 3) := dq_180 (b1 := 0) (b2 := 15) (by decide +kernel) (by decide)
theorem dX1_leave_24 : decode cX1_leave 24 = .ok (.iconst 1, 1) := dq_4 (by decide +kernel)
theorem dX1_leave_25 : decode cX1_leave 25 = .ok (.iadd, 1) := dq_96 (by decide +kernel)
theorem dX1_leave_26 : decode cX1_leave 26 = .ok (.putfield 15, 3) := dq_181 (b1 := 0) (b2 := 15) (by decide +kernel) (by decide)
theorem dX1_leave_29 : decode cX1_leave 29 = .ok (.return_, 1) := dq_177 (by decide +kernel)
theorem dX1_leave_4 : decode cX1_leave 4 = .ok (.bipush 16, 2) := dq_16 (b1 := 16) (by decide +kernel) (by decide)
theorem dX1_leave_6 : decode cX1_leave 6 = .ok (.if_icmp .ge 23, 3) := dq_162 (b1 := 0) (b2 := 23) (by decide +kernel) (by decide)
theorem dX1_leave_9 : decode cX1_leave 9 = .ok (.aload_n 0, 1) := dq_42 (by decide +kernel)
theorem mb_X1_answer_wsX1_answer_r1 {w : Cond} (h : w ∈ wsX1_answer_r1) : w ∈ wsX1_answer := by unfold wsX1_answer; exact List.mem_cons_of_mem _ (List.mem_append_left _ (List.mem_append_left _ (List.mem_append_left _ (h))))
theorem mx_X1_answer_13 : Cond.code yX1_askAnew cX1_askAnew 3 (some .int) ∈ wsX1_answer := mb_X1_answer_wsX1_answer_r1 (List.mem_of_getElem? (i := 12) rfl)
theorem mx_X1_answer_14 : Cond.methodLink RX1 46 yX1_bodyFor ∈ wsX1_answer := mb_X1_answer_wsX1_answer_r1 (List.mem_of_getElem? (i := 13) rfl)
theorem mx_X1_answer_15 : Cond.instanceMethod yX1_bodyFor ∈ wsX1_answer := mb_X1_answer_wsX1_answer_r1 (List.mem_of_getElem? (i := 14) rfl)
theorem mx_X1_answer_16 : Cond.selects RX1 yX1_bodyFor yX1_bodyFor ∈ wsX1_answer := mb_X1_answer_wsX1_answer_r1 (List.mem_of_getElem? (i := 15) rfl)
theorem mx_X1_answer_12 : Cond.initialized RX1 ∈ wsX1_answer := mb_X1_answer_wsX1_answer_r1 (List.mem_of_getElem? (i := 11) rfl)
theorem mx_X1_answer_17 : Cond.code yX1_bodyFor cX1_bodyFor 5 (some .int) ∈ wsX1_answer := mb_X1_answer_wsX1_answer_r1 (List.mem_of_getElem? (i := 16) rfl)
theorem mx_X1_answer_4 : Cond.fieldLink RX1 27 "MillTalk$Asks" "kind" "I" ∈ wsX1_answer := mb_X1_answer_wsX1_answer_r1 (List.mem_of_getElem? (i := 3) rfl)
theorem mx_X1_answer_18 : Cond.fieldLink RX1 56 "MillTalk$Asks" "SIZE_BODIES" "[I" ∈ wsX1_answer := mb_X1_answer_wsX1_answer_r1 (List.mem_of_getElem? (i := 17) rfl)
theorem mx_X1_answer_19 : Cond.fieldLink RX1 59 "MillTalk$Asks" "MARK_BODIES" "[I" ∈ wsX1_answer := mb_X1_answer_wsX1_answer_r1 (List.mem_of_getElem? (i := 18) rfl)
theorem mx_X1_answer_20 : Cond.methodLink RX1 50 yX1_begin ∈ wsX1_answer := mb_X1_answer_wsX1_answer_r1 (List.mem_of_getElem? (i := 19) rfl)
theorem mx_X1_answer_21 : Cond.instanceMethod yX1_begin ∈ wsX1_answer := mb_X1_answer_wsX1_answer_r1 (List.mem_of_getElem? (i := 20) rfl)
theorem mx_X1_answer_22 : Cond.selects RX1 yX1_begin yX1_begin ∈ wsX1_answer := mb_X1_answer_wsX1_answer_r1 (List.mem_of_getElem? (i := 21) rfl)
theorem mx_X1_answer_23 : Cond.code yX1_begin cX1_begin 4 (some .int) ∈ wsX1_answer := mb_X1_answer_wsX1_answer_r1 (List.mem_of_getElem? (i := 22) rfl)
theorem mx_X1_answer_8 : Cond.fieldLink RX1 39 "MillTalk$Asks" "loud" "I" ∈ wsX1_answer := mb_X1_answer_wsX1_answer_r1 (List.mem_of_getElem? (i := 7) rfl)
theorem mx_X1_answer_2 : Cond.fieldLink RX1 19 "MillTalk$Asks" "number" "I" ∈ wsX1_answer := mb_X1_answer_wsX1_answer_r1 (List.mem_of_getElem? (i := 1) rfl)
theorem mx_X1_answer_6 : Cond.fieldLink RX1 33 "MillTalk$Asks" "cell" "I" ∈ wsX1_answer := mb_X1_answer_wsX1_answer_r1 (List.mem_of_getElem? (i := 5) rfl)
theorem mx_X1_answer_24 : Cond.methodLink RX1 62 yX1_leave ∈ wsX1_answer := mb_X1_answer_wsX1_answer_r1 (List.mem_of_getElem? (i := 23) rfl)
theorem mb_X1_answer_wsX1_answer_r2 {w : Cond} (h : w ∈ wsX1_answer_r2) : w ∈ wsX1_answer := by unfold wsX1_answer; exact List.mem_cons_of_mem _ (List.mem_append_left _ (List.mem_append_left _ (List.mem_append_right _ (h))))
theorem mx_X1_answer_25 : Cond.instanceMethod yX1_leave ∈ wsX1_answer := mb_X1_answer_wsX1_answer_r2 (List.mem_of_getElem? (i := 0) rfl)
theorem mx_X1_answer_26 : Cond.selects RX1 yX1_leave yX1_leave ∈ wsX1_answer := mb_X1_answer_wsX1_answer_r2 (List.mem_of_getElem? (i := 1) rfl)
theorem mx_X1_answer_27 : Cond.code yX1_leave cX1_leave 2 none ∈ wsX1_answer := mb_X1_answer_wsX1_answer_r2 (List.mem_of_getElem? (i := 2) rfl)
theorem mx_X1_answer_1 : Cond.fieldLink RX1 15 "MillTalk$Asks" "traced" "I" ∈ wsX1_answer := mb_X1_answer_wsX1_answer_r1 (List.mem_of_getElem? (i := 0) rfl)
theorem mx_X1_answer_28 : Cond.fieldLink RX1 11 "MillTalk$Asks" "trace" "[I" ∈ wsX1_answer := mb_X1_answer_wsX1_answer_r2 (List.mem_of_getElem? (i := 3) rfl)
theorem mx_X1_answer_9 : Cond.methodLink RX1 42 yX1_askAnew ∈ wsX1_answer := mb_X1_answer_wsX1_answer_r1 (List.mem_of_getElem? (i := 8) rfl)
theorem mx_X1_answer_10 : Cond.instanceMethod yX1_askAnew ∈ wsX1_answer := mb_X1_answer_wsX1_answer_r1 (List.mem_of_getElem? (i := 9) rfl)
theorem mx_X1_answer_11 : Cond.selects RX1 yX1_askAnew yX1_askAnew ∈ wsX1_answer := mb_X1_answer_wsX1_answer_r1 (List.mem_of_getElem? (i := 10) rfl)
theorem mb_X1_answer_wsX10 {w : Cond} (h : w ∈ wsX10) : w ∈ wsX1_answer := by unfold wsX1_answer; exact List.mem_cons_of_mem _ (List.mem_append_left _ (List.mem_append_right _ (h)))
theorem ggX1_answer_X1_askAnew : GoodIn wsX1_answer wsX1_askAnew := goodIn_sub (by unfold wsX1_askAnew; exact List.forall_mem_cons.mpr ⟨mx_X1_answer_13, List.forall_mem_append.mpr ⟨List.forall_mem_cons.mpr ⟨mx_X1_answer_14, List.forall_mem_cons.mpr ⟨mx_X1_answer_15, List.forall_mem_cons.mpr ⟨mx_X1_answer_16, List.forall_mem_cons.mpr ⟨mx_X1_answer_12, List.forall_mem_cons.mpr ⟨mx_X1_answer_17, List.forall_mem_cons.mpr ⟨mx_X1_answer_4, List.forall_mem_cons.mpr ⟨mx_X1_answer_18, List.forall_mem_cons.mpr ⟨mx_X1_answer_19, List.forall_mem_cons.mpr ⟨mx_X1_answer_20, List.forall_mem_cons.mpr ⟨mx_X1_answer_21, List.forall_mem_cons.mpr ⟨mx_X1_answer_22, List.forall_mem_cons.mpr ⟨mx_X1_answer_23, List.forall_mem_cons.mpr ⟨mx_X1_answer_8, List.forall_mem_cons.mpr ⟨mx_X1_answer_2, List.forall_mem_cons.mpr ⟨mx_X1_answer_6, List.forall_mem_cons.mpr ⟨mx_X1_answer_24, List.forall_mem_cons.mpr ⟨mx_X1_answer_25, List.forall_mem_cons.mpr ⟨mx_X1_answer_26, List.forall_mem_cons.mpr ⟨mx_X1_answer_27, List.forall_mem_cons.mpr ⟨mx_X1_answer_1, List.forall_mem_cons.mpr ⟨mx_X1_answer_28, List.forall_mem_cons.mpr ⟨mx_X1_answer_9, List.forall_mem_cons.mpr ⟨mx_X1_answer_10, List.forall_mem_cons.mpr ⟨mx_X1_answer_11, fun _ h_ => absurd h_ List.not_mem_nil⟩⟩⟩⟩⟩⟩⟩⟩⟩⟩⟩⟩⟩⟩⟩⟩⟩⟩⟩⟩⟩⟩⟩⟩, (fun _ h_ => mb_X1_answer_wsX10 h_)⟩⟩) (by decide +kernel)
theorem gX1_answer_X1_askAnew : GoodIn wsX1_answer (wsV RX1 42 RX1 yX1_askAnew wsX1_askAnew) := goodIn_app (goodIn_sub (List.forall_mem_cons.mpr ⟨mx_X1_answer_9, List.forall_mem_cons.mpr ⟨mx_X1_answer_10, List.forall_mem_cons.mpr ⟨mx_X1_answer_11, List.forall_mem_cons.mpr ⟨mx_X1_answer_12, fun _ h_ => absurd h_ List.not_mem_nil⟩⟩⟩⟩) (by decide +kernel)) ggX1_answer_X1_askAnew
theorem mx_X1_askAnew_12 : Cond.code yX1_begin cX1_begin 4 (some .int) ∈ wsX1_askAnew := by unfold wsX1_askAnew; exact List.mem_cons_of_mem _ (List.mem_append_left _ (List.mem_of_getElem? (i := 11) rfl))
theorem mx_X1_askAnew_13 : Cond.fieldLink RX1 39 "MillTalk$Asks" "loud" "I" ∈ wsX1_askAnew := by unfold wsX1_askAnew; exact List.mem_cons_of_mem _ (List.mem_append_left _ (List.mem_of_getElem? (i := 12) rfl))
theorem mx_X1_askAnew_14 : Cond.fieldLink RX1 19 "MillTalk$Asks" "number" "I" ∈ wsX1_askAnew := by unfold wsX1_askAnew; exact List.mem_cons_of_mem _ (List.mem_append_left _ (List.mem_of_getElem? (i := 13) rfl))
theorem mx_X1_askAnew_15 : Cond.fieldLink RX1 33 "MillTalk$Asks" "cell" "I" ∈ wsX1_askAnew := by unfold wsX1_askAnew; exact List.mem_cons_of_mem _ (List.mem_append_left _ (List.mem_of_getElem? (i := 14) rfl))
theorem mx_X1_askAnew_16 : Cond.methodLink RX1 62 yX1_leave ∈ wsX1_askAnew := by unfold wsX1_askAnew; exact List.mem_cons_of_mem _ (List.mem_append_left _ (List.mem_of_getElem? (i := 15) rfl))
theorem mx_X1_askAnew_17 : Cond.instanceMethod yX1_leave ∈ wsX1_askAnew := by unfold wsX1_askAnew; exact List.mem_cons_of_mem _ (List.mem_append_left _ (List.mem_of_getElem? (i := 16) rfl))
theorem mx_X1_askAnew_18 : Cond.selects RX1 yX1_leave yX1_leave ∈ wsX1_askAnew := by unfold wsX1_askAnew; exact List.mem_cons_of_mem _ (List.mem_append_left _ (List.mem_of_getElem? (i := 17) rfl))
theorem mx_X1_askAnew_4 : Cond.initialized RX1 ∈ wsX1_askAnew := by unfold wsX1_askAnew; exact List.mem_cons_of_mem _ (List.mem_append_left _ (List.mem_of_getElem? (i := 3) rfl))
theorem mx_X1_askAnew_19 : Cond.code yX1_leave cX1_leave 2 none ∈ wsX1_askAnew := by unfold wsX1_askAnew; exact List.mem_cons_of_mem _ (List.mem_append_left _ (List.mem_of_getElem? (i := 18) rfl))
theorem mx_X1_askAnew_20 : Cond.fieldLink RX1 15 "MillTalk$Asks" "traced" "I" ∈ wsX1_askAnew := by unfold wsX1_askAnew; exact List.mem_cons_of_mem _ (List.mem_append_left _ (List.mem_of_getElem? (i := 19) rfl))
theorem mx_X1_askAnew_21 : Cond.fieldLink RX1 11 "MillTalk$Asks" "trace" "[I" ∈ wsX1_askAnew := by unfold wsX1_askAnew; exact List.mem_cons_of_mem _ (List.mem_append_left _ (List.mem_of_getElem? (i := 20) rfl))
theorem mx_X1_askAnew_9 : Cond.methodLink RX1 50 yX1_begin ∈ wsX1_askAnew := by unfold wsX1_askAnew; exact List.mem_cons_of_mem _ (List.mem_append_left _ (List.mem_of_getElem? (i := 8) rfl))
theorem mx_X1_askAnew_10 : Cond.instanceMethod yX1_begin ∈ wsX1_askAnew := by unfold wsX1_askAnew; exact List.mem_cons_of_mem _ (List.mem_append_left _ (List.mem_of_getElem? (i := 9) rfl))
theorem mx_X1_askAnew_11 : Cond.selects RX1 yX1_begin yX1_begin ∈ wsX1_askAnew := by unfold wsX1_askAnew; exact List.mem_cons_of_mem _ (List.mem_append_left _ (List.mem_of_getElem? (i := 10) rfl))
theorem mx_X1_askAnew_22 : Cond.methodLink RX1 42 yX1_askAnew ∈ wsX1_askAnew := by unfold wsX1_askAnew; exact List.mem_cons_of_mem _ (List.mem_append_left _ (List.mem_of_getElem? (i := 21) rfl))
theorem mx_X1_askAnew_23 : Cond.instanceMethod yX1_askAnew ∈ wsX1_askAnew := by unfold wsX1_askAnew; exact List.mem_cons_of_mem _ (List.mem_append_left _ (List.mem_of_getElem? (i := 22) rfl))
theorem mx_X1_askAnew_24 : Cond.selects RX1 yX1_askAnew yX1_askAnew ∈ wsX1_askAnew := by unfold wsX1_askAnew; exact List.mem_cons_of_mem _ (List.mem_append_left _ (List.mem_of_getElem? (i := 23) rfl))
theorem mx_X1_askAnew_0 : Cond.code yX1_askAnew cX1_askAnew 3 (some .int) ∈ wsX1_askAnew := by unfold wsX1_askAnew; exact List.mem_cons_self
theorem mx_X1_askAnew_1 : Cond.methodLink RX1 46 yX1_bodyFor ∈ wsX1_askAnew := by unfold wsX1_askAnew; exact List.mem_cons_of_mem _ (List.mem_append_left _ (List.mem_of_getElem? (i := 0) rfl))
theorem mx_X1_askAnew_2 : Cond.instanceMethod yX1_bodyFor ∈ wsX1_askAnew := by unfold wsX1_askAnew; exact List.mem_cons_of_mem _ (List.mem_append_left _ (List.mem_of_getElem? (i := 1) rfl))
theorem mx_X1_askAnew_3 : Cond.selects RX1 yX1_bodyFor yX1_bodyFor ∈ wsX1_askAnew := by unfold wsX1_askAnew; exact List.mem_cons_of_mem _ (List.mem_append_left _ (List.mem_of_getElem? (i := 2) rfl))
theorem mx_X1_askAnew_5 : Cond.code yX1_bodyFor cX1_bodyFor 5 (some .int) ∈ wsX1_askAnew := by unfold wsX1_askAnew; exact List.mem_cons_of_mem _ (List.mem_append_left _ (List.mem_of_getElem? (i := 4) rfl))
theorem mx_X1_askAnew_6 : Cond.fieldLink RX1 27 "MillTalk$Asks" "kind" "I" ∈ wsX1_askAnew := by unfold wsX1_askAnew; exact List.mem_cons_of_mem _ (List.mem_append_left _ (List.mem_of_getElem? (i := 5) rfl))
theorem mx_X1_askAnew_7 : Cond.fieldLink RX1 56 "MillTalk$Asks" "SIZE_BODIES" "[I" ∈ wsX1_askAnew := by unfold wsX1_askAnew; exact List.mem_cons_of_mem _ (List.mem_append_left _ (List.mem_of_getElem? (i := 6) rfl))
theorem mx_X1_askAnew_8 : Cond.fieldLink RX1 59 "MillTalk$Asks" "MARK_BODIES" "[I" ∈ wsX1_askAnew := by unfold wsX1_askAnew; exact List.mem_cons_of_mem _ (List.mem_append_left _ (List.mem_of_getElem? (i := 7) rfl))
theorem mb_X1_askAnew_wsX10 {w : Cond} (h : w ∈ wsX10) : w ∈ wsX1_askAnew := by unfold wsX1_askAnew; exact List.mem_cons_of_mem _ (List.mem_append_right _ (h))
theorem ggX1_askAnew_X1_begin : GoodIn wsX1_askAnew wsX1_begin := goodIn_sub (by unfold wsX1_begin; exact List.forall_mem_cons.mpr ⟨mx_X1_askAnew_12, List.forall_mem_append.mpr ⟨List.forall_mem_cons.mpr ⟨mx_X1_askAnew_13, List.forall_mem_cons.mpr ⟨mx_X1_askAnew_14, List.forall_mem_cons.mpr ⟨mx_X1_askAnew_15, List.forall_mem_cons.mpr ⟨mx_X1_askAnew_16, List.forall_mem_cons.mpr ⟨mx_X1_askAnew_17, List.forall_mem_cons.mpr ⟨mx_X1_askAnew_18, List.forall_mem_cons.mpr ⟨mx_X1_askAnew_4, List.forall_mem_cons.mpr ⟨mx_X1_askAnew_19, List.forall_mem_cons.mpr ⟨mx_X1_askAnew_20, List.forall_mem_cons.mpr ⟨mx_X1_askAnew_21, List.forall_mem_cons.mpr ⟨mx_X1_askAnew_9, List.forall_mem_cons.mpr ⟨mx_X1_askAnew_10, List.forall_mem_cons.mpr ⟨mx_X1_askAnew_11, List.forall_mem_cons.mpr ⟨mx_X1_askAnew_22, List.forall_mem_cons.mpr ⟨mx_X1_askAnew_23, List.forall_mem_cons.mpr ⟨mx_X1_askAnew_24, List.forall_mem_cons.mpr ⟨mx_X1_askAnew_0, List.forall_mem_cons.mpr ⟨mx_X1_askAnew_1, List.forall_mem_cons.mpr ⟨mx_X1_askAnew_2, List.forall_mem_cons.mpr ⟨mx_X1_askAnew_3, List.forall_mem_cons.mpr ⟨mx_X1_askAnew_5, List.forall_mem_cons.mpr ⟨mx_X1_askAnew_6, List.forall_mem_cons.mpr ⟨mx_X1_askAnew_7, List.forall_mem_cons.mpr ⟨mx_X1_askAnew_8, fun _ h_ => absurd h_ List.not_mem_nil⟩⟩⟩⟩⟩⟩⟩⟩⟩⟩⟩⟩⟩⟩⟩⟩⟩⟩⟩⟩⟩⟩⟩⟩, (fun _ h_ => mb_X1_askAnew_wsX10 h_)⟩⟩) (by decide +kernel)
theorem gX1_askAnew_X1_begin : GoodIn wsX1_askAnew (wsV RX1 50 RX1 yX1_begin wsX1_begin) := goodIn_app (goodIn_sub (List.forall_mem_cons.mpr ⟨mx_X1_askAnew_9, List.forall_mem_cons.mpr ⟨mx_X1_askAnew_10, List.forall_mem_cons.mpr ⟨mx_X1_askAnew_11, List.forall_mem_cons.mpr ⟨mx_X1_askAnew_4, fun _ h_ => absurd h_ List.not_mem_nil⟩⟩⟩⟩) (by decide +kernel)) ggX1_askAnew_X1_begin
theorem ggX1_askAnew_X1_bodyFor : GoodIn wsX1_askAnew wsX1_bodyFor := goodIn_sub (by unfold wsX1_bodyFor; exact List.forall_mem_cons.mpr ⟨mx_X1_askAnew_5, List.forall_mem_append.mpr ⟨List.forall_mem_cons.mpr ⟨mx_X1_askAnew_6, List.forall_mem_cons.mpr ⟨mx_X1_askAnew_7, List.forall_mem_cons.mpr ⟨mx_X1_askAnew_8, fun _ h_ => absurd h_ List.not_mem_nil⟩⟩⟩, (fun _ h_ => mb_X1_askAnew_wsX10 h_)⟩⟩) (by decide +kernel)
theorem gX1_askAnew_X1_bodyFor : GoodIn wsX1_askAnew (wsV RX1 46 RX1 yX1_bodyFor wsX1_bodyFor) := goodIn_app (goodIn_sub (List.forall_mem_cons.mpr ⟨mx_X1_askAnew_1, List.forall_mem_cons.mpr ⟨mx_X1_askAnew_2, List.forall_mem_cons.mpr ⟨mx_X1_askAnew_3, List.forall_mem_cons.mpr ⟨mx_X1_askAnew_4, fun _ h_ => absurd h_ List.not_mem_nil⟩⟩⟩⟩) (by decide +kernel)) ggX1_askAnew_X1_bodyFor
theorem mx_X1_begin_17 : Cond.code yX1_askAnew cX1_askAnew 3 (some .int) ∈ wsX1_begin := by unfold wsX1_begin; exact List.mem_cons_of_mem _ (List.mem_append_left _ (List.mem_of_getElem? (i := 16) rfl))
theorem mx_X1_begin_18 : Cond.methodLink RX1 46 yX1_bodyFor ∈ wsX1_begin := by unfold wsX1_begin; exact List.mem_cons_of_mem _ (List.mem_append_left _ (List.mem_of_getElem? (i := 17) rfl))
theorem mx_X1_begin_19 : Cond.instanceMethod yX1_bodyFor ∈ wsX1_begin := by unfold wsX1_begin; exact List.mem_cons_of_mem _ (List.mem_append_left _ (List.mem_of_getElem? (i := 18) rfl))
theorem mx_X1_begin_20 : Cond.selects RX1 yX1_bodyFor yX1_bodyFor ∈ wsX1_begin := by unfold wsX1_begin; exact List.mem_cons_of_mem _ (List.mem_append_left _ (List.mem_of_getElem? (i := 19) rfl))
theorem mx_X1_begin_7 : Cond.initialized RX1 ∈ wsX1_begin := by unfold wsX1_begin; exact List.mem_cons_of_mem _ (List.mem_append_left _ (List.mem_of_getElem? (i := 6) rfl))
theorem mx_X1_begin_21 : Cond.code yX1_bodyFor cX1_bodyFor 5 (some .int) ∈ wsX1_begin := by unfold wsX1_begin; exact List.mem_cons_of_mem _ (List.mem_append_left _ (List.mem_of_getElem? (i := 20) rfl))
theorem mx_X1_begin_22 : Cond.fieldLink RX1 27 "MillTalk$Asks" "kind" "I" ∈ wsX1_begin := by unfold wsX1_begin; exact List.mem_cons_of_mem _ (List.mem_append_left _ (List.mem_of_getElem? (i := 21) rfl))
theorem mx_X1_begin_23 : Cond.fieldLink RX1 56 "MillTalk$Asks" "SIZE_BODIES" "[I" ∈ wsX1_begin := by unfold wsX1_begin; exact List.mem_cons_of_mem _ (List.mem_append_left _ (List.mem_of_getElem? (i := 22) rfl))
theorem mx_X1_begin_24 : Cond.fieldLink RX1 59 "MillTalk$Asks" "MARK_BODIES" "[I" ∈ wsX1_begin := by unfold wsX1_begin; exact List.mem_cons_of_mem _ (List.mem_append_left _ (List.mem_of_getElem? (i := 23) rfl))
theorem mx_X1_begin_11 : Cond.methodLink RX1 50 yX1_begin ∈ wsX1_begin := by unfold wsX1_begin; exact List.mem_cons_of_mem _ (List.mem_append_left _ (List.mem_of_getElem? (i := 10) rfl))
theorem mx_X1_begin_12 : Cond.instanceMethod yX1_begin ∈ wsX1_begin := by unfold wsX1_begin; exact List.mem_cons_of_mem _ (List.mem_append_left _ (List.mem_of_getElem? (i := 11) rfl))
theorem mx_X1_begin_13 : Cond.selects RX1 yX1_begin yX1_begin ∈ wsX1_begin := by unfold wsX1_begin; exact List.mem_cons_of_mem _ (List.mem_append_left _ (List.mem_of_getElem? (i := 12) rfl))
theorem mx_X1_begin_0 : Cond.code yX1_begin cX1_begin 4 (some .int) ∈ wsX1_begin := by unfold wsX1_begin; exact List.mem_cons_self
theorem mx_X1_begin_1 : Cond.fieldLink RX1 39 "MillTalk$Asks" "loud" "I" ∈ wsX1_begin := by unfold wsX1_begin; exact List.mem_cons_of_mem _ (List.mem_append_left _ (List.mem_of_getElem? (i := 0) rfl))
theorem mx_X1_begin_2 : Cond.fieldLink RX1 19 "MillTalk$Asks" "number" "I" ∈ wsX1_begin := by unfold wsX1_begin; exact List.mem_cons_of_mem _ (List.mem_append_left _ (List.mem_of_getElem? (i := 1) rfl))
theorem mx_X1_begin_3 : Cond.fieldLink RX1 33 "MillTalk$Asks" "cell" "I" ∈ wsX1_begin := by unfold wsX1_begin; exact List.mem_cons_of_mem _ (List.mem_append_left _ (List.mem_of_getElem? (i := 2) rfl))
theorem mx_X1_begin_4 : Cond.methodLink RX1 62 yX1_leave ∈ wsX1_begin := by unfold wsX1_begin; exact List.mem_cons_of_mem _ (List.mem_append_left _ (List.mem_of_getElem? (i := 3) rfl))
theorem mx_X1_begin_5 : Cond.instanceMethod yX1_leave ∈ wsX1_begin := by unfold wsX1_begin; exact List.mem_cons_of_mem _ (List.mem_append_left _ (List.mem_of_getElem? (i := 4) rfl))
theorem mx_X1_begin_6 : Cond.selects RX1 yX1_leave yX1_leave ∈ wsX1_begin := by unfold wsX1_begin; exact List.mem_cons_of_mem _ (List.mem_append_left _ (List.mem_of_getElem? (i := 5) rfl))
theorem mx_X1_begin_8 : Cond.code yX1_leave cX1_leave 2 none ∈ wsX1_begin := by unfold wsX1_begin; exact List.mem_cons_of_mem _ (List.mem_append_left _ (List.mem_of_getElem? (i := 7) rfl))
theorem mx_X1_begin_9 : Cond.fieldLink RX1 15 "MillTalk$Asks" "traced" "I" ∈ wsX1_begin := by unfold wsX1_begin; exact List.mem_cons_of_mem _ (List.mem_append_left _ (List.mem_of_getElem? (i := 8) rfl))
theorem mx_X1_begin_10 : Cond.fieldLink RX1 11 "MillTalk$Asks" "trace" "[I" ∈ wsX1_begin := by unfold wsX1_begin; exact List.mem_cons_of_mem _ (List.mem_append_left _ (List.mem_of_getElem? (i := 9) rfl))
theorem mx_X1_begin_14 : Cond.methodLink RX1 42 yX1_askAnew ∈ wsX1_begin := by unfold wsX1_begin; exact List.mem_cons_of_mem _ (List.mem_append_left _ (List.mem_of_getElem? (i := 13) rfl))
theorem mx_X1_begin_15 : Cond.instanceMethod yX1_askAnew ∈ wsX1_begin := by unfold wsX1_begin; exact List.mem_cons_of_mem _ (List.mem_append_left _ (List.mem_of_getElem? (i := 14) rfl))
theorem mx_X1_begin_16 : Cond.selects RX1 yX1_askAnew yX1_askAnew ∈ wsX1_begin := by unfold wsX1_begin; exact List.mem_cons_of_mem _ (List.mem_append_left _ (List.mem_of_getElem? (i := 15) rfl))
theorem mb_X1_begin_wsX10 {w : Cond} (h : w ∈ wsX10) : w ∈ wsX1_begin := by unfold wsX1_begin; exact List.mem_cons_of_mem _ (List.mem_append_right _ (h))
theorem ggX1_begin_X1_askAnew : GoodIn wsX1_begin wsX1_askAnew := goodIn_sub (by unfold wsX1_askAnew; exact List.forall_mem_cons.mpr ⟨mx_X1_begin_17, List.forall_mem_append.mpr ⟨List.forall_mem_cons.mpr ⟨mx_X1_begin_18, List.forall_mem_cons.mpr ⟨mx_X1_begin_19, List.forall_mem_cons.mpr ⟨mx_X1_begin_20, List.forall_mem_cons.mpr ⟨mx_X1_begin_7, List.forall_mem_cons.mpr ⟨mx_X1_begin_21, List.forall_mem_cons.mpr ⟨mx_X1_begin_22, List.forall_mem_cons.mpr ⟨mx_X1_begin_23, List.forall_mem_cons.mpr ⟨mx_X1_begin_24, List.forall_mem_cons.mpr ⟨mx_X1_begin_11, List.forall_mem_cons.mpr ⟨mx_X1_begin_12, List.forall_mem_cons.mpr ⟨mx_X1_begin_13, List.forall_mem_cons.mpr ⟨mx_X1_begin_0, List.forall_mem_cons.mpr ⟨mx_X1_begin_1, List.forall_mem_cons.mpr ⟨mx_X1_begin_2, List.forall_mem_cons.mpr ⟨mx_X1_begin_3, List.forall_mem_cons.mpr ⟨mx_X1_begin_4, List.forall_mem_cons.mpr ⟨mx_X1_begin_5, List.forall_mem_cons.mpr ⟨mx_X1_begin_6, List.forall_mem_cons.mpr ⟨mx_X1_begin_8, List.forall_mem_cons.mpr ⟨mx_X1_begin_9, List.forall_mem_cons.mpr ⟨mx_X1_begin_10, List.forall_mem_cons.mpr ⟨mx_X1_begin_14, List.forall_mem_cons.mpr ⟨mx_X1_begin_15, List.forall_mem_cons.mpr ⟨mx_X1_begin_16, fun _ h_ => absurd h_ List.not_mem_nil⟩⟩⟩⟩⟩⟩⟩⟩⟩⟩⟩⟩⟩⟩⟩⟩⟩⟩⟩⟩⟩⟩⟩⟩, (fun _ h_ => mb_X1_begin_wsX10 h_)⟩⟩) (by decide +kernel)
theorem gX1_begin_X1_askAnew : GoodIn wsX1_begin (wsV RX1 42 RX1 yX1_askAnew wsX1_askAnew) := goodIn_app (goodIn_sub (List.forall_mem_cons.mpr ⟨mx_X1_begin_14, List.forall_mem_cons.mpr ⟨mx_X1_begin_15, List.forall_mem_cons.mpr ⟨mx_X1_begin_16, List.forall_mem_cons.mpr ⟨mx_X1_begin_7, fun _ h_ => absurd h_ List.not_mem_nil⟩⟩⟩⟩) (by decide +kernel)) ggX1_begin_X1_askAnew
theorem ggX1_begin_X1_begin : GoodIn wsX1_begin wsX1_begin := goodIn_sub (by unfold wsX1_begin; exact List.forall_mem_cons.mpr ⟨mx_X1_begin_0, List.forall_mem_append.mpr ⟨List.forall_mem_cons.mpr ⟨mx_X1_begin_1, List.forall_mem_cons.mpr ⟨mx_X1_begin_2, List.forall_mem_cons.mpr ⟨mx_X1_begin_3, List.forall_mem_cons.mpr ⟨mx_X1_begin_4, List.forall_mem_cons.mpr ⟨mx_X1_begin_5, List.forall_mem_cons.mpr ⟨mx_X1_begin_6, List.forall_mem_cons.mpr ⟨mx_X1_begin_7, List.forall_mem_cons.mpr ⟨mx_X1_begin_8, List.forall_mem_cons.mpr ⟨mx_X1_begin_9, List.forall_mem_cons.mpr ⟨mx_X1_begin_10, List.forall_mem_cons.mpr ⟨mx_X1_begin_11, List.forall_mem_cons.mpr ⟨mx_X1_begin_12, List.forall_mem_cons.mpr ⟨mx_X1_begin_13, List.forall_mem_cons.mpr ⟨mx_X1_begin_14, List.forall_mem_cons.mpr ⟨mx_X1_begin_15, List.forall_mem_cons.mpr ⟨mx_X1_begin_16, List.forall_mem_cons.mpr ⟨mx_X1_begin_17, List.forall_mem_cons.mpr ⟨mx_X1_begin_18, List.forall_mem_cons.mpr ⟨mx_X1_begin_19, List.forall_mem_cons.mpr ⟨mx_X1_begin_20, List.forall_mem_cons.mpr ⟨mx_X1_begin_21, List.forall_mem_cons.mpr ⟨mx_X1_begin_22, List.forall_mem_cons.mpr ⟨mx_X1_begin_23, List.forall_mem_cons.mpr ⟨mx_X1_begin_24, fun _ h_ => absurd h_ List.not_mem_nil⟩⟩⟩⟩⟩⟩⟩⟩⟩⟩⟩⟩⟩⟩⟩⟩⟩⟩⟩⟩⟩⟩⟩⟩, (fun _ h_ => mb_X1_begin_wsX10 h_)⟩⟩) (by decide +kernel)
theorem gX1_begin_X1_begin : GoodIn wsX1_begin (wsV RX1 50 RX1 yX1_begin wsX1_begin) := goodIn_app (goodIn_sub (List.forall_mem_cons.mpr ⟨mx_X1_begin_11, List.forall_mem_cons.mpr ⟨mx_X1_begin_12, List.forall_mem_cons.mpr ⟨mx_X1_begin_13, List.forall_mem_cons.mpr ⟨mx_X1_begin_7, fun _ h_ => absurd h_ List.not_mem_nil⟩⟩⟩⟩) (by decide +kernel)) ggX1_begin_X1_begin
theorem ggX1_begin_X1_leave : GoodIn wsX1_begin wsX1_leave := goodIn_sub (by unfold wsX1_leave; exact List.forall_mem_cons.mpr ⟨mx_X1_begin_8, List.forall_mem_append.mpr ⟨List.forall_mem_cons.mpr ⟨mx_X1_begin_9, List.forall_mem_cons.mpr ⟨mx_X1_begin_10, fun _ h_ => absurd h_ List.not_mem_nil⟩⟩, (fun _ h_ => mb_X1_begin_wsX10 h_)⟩⟩) (by decide +kernel)
theorem gX1_begin_X1_leave : GoodIn wsX1_begin (wsV RX1 62 RX1 yX1_leave wsX1_leave) := goodIn_app (goodIn_sub (List.forall_mem_cons.mpr ⟨mx_X1_begin_4, List.forall_mem_cons.mpr ⟨mx_X1_begin_5, List.forall_mem_cons.mpr ⟨mx_X1_begin_6, List.forall_mem_cons.mpr ⟨mx_X1_begin_7, fun _ h_ => absurd h_ List.not_mem_nil⟩⟩⟩⟩) (by decide +kernel)) ggX1_begin_X1_leave
theorem i_X1_answer_X1 : ∀ w ∈ u_ws RX1 TX1 6, w ∈ wsX1_answer := fun _ h_ => mb_X1_answer_wsX10 h_
theorem mb_X1_answer_wsX30 {w : Cond} (h : w ∈ wsX30) : w ∈ wsX1_answer := by unfold wsX1_answer; exact List.mem_cons_of_mem _ (List.mem_append_right _ (h))
theorem i_X1_answer_X3 : ∀ w ∈ u_ws RX3 TX3 13, w ∈ wsX1_answer := fun _ h_ => mb_X1_answer_wsX30 h_
theorem i_X1_begin_X1 : ∀ w ∈ u_ws RX1 TX1 6, w ∈ wsX1_begin := fun _ h_ => mb_X1_begin_wsX10 h_
theorem mb_X1_bodyFor_wsX10 {w : Cond} (h : w ∈ wsX10) : w ∈ wsX1_bodyFor := by unfold wsX1_bodyFor; exact List.mem_cons_of_mem _ (List.mem_append_right _ (h))
theorem i_X1_bodyFor_X1 : ∀ w ∈ u_ws RX1 TX1 6, w ∈ wsX1_bodyFor := fun _ h_ => mb_X1_bodyFor_wsX10 h_
theorem mb_X1_leave_wsX10 {w : Cond} (h : w ∈ wsX10) : w ∈ wsX1_leave := by unfold wsX1_leave; exact List.mem_cons_of_mem _ (List.mem_append_right _ (h))
theorem i_X1_leave_X1 : ∀ w ∈ u_ws RX1 TX1 6, w ∈ wsX1_leave := fun _ h_ => mb_X1_leave_wsX10 h_
theorem mx_X1_leave_1 : Cond.fieldLink RX1 15 "MillTalk$Asks" "traced" "I" ∈ wsX1_leave := by unfold wsX1_leave; exact List.mem_cons_of_mem _ (List.mem_append_left _ (List.mem_of_getElem? (i := 0) rfl))
theorem mx_X1_leave_2 : Cond.fieldLink RX1 11 "MillTalk$Asks" "trace" "[I" ∈ wsX1_leave := by unfold wsX1_leave; exact List.mem_cons_of_mem _ (List.mem_append_left _ (List.mem_of_getElem? (i := 1) rfl))
theorem mx_X1_bodyFor_1 : Cond.fieldLink RX1 27 "MillTalk$Asks" "kind" "I" ∈ wsX1_bodyFor := by unfold wsX1_bodyFor; exact List.mem_cons_of_mem _ (List.mem_append_left _ (List.mem_of_getElem? (i := 0) rfl))
theorem mx_X1_bodyFor_2 : Cond.fieldLink RX1 56 "MillTalk$Asks" "SIZE_BODIES" "[I" ∈ wsX1_bodyFor := by unfold wsX1_bodyFor; exact List.mem_cons_of_mem _ (List.mem_append_left _ (List.mem_of_getElem? (i := 1) rfl))
theorem mx_X1_bodyFor_3 : Cond.fieldLink RX1 59 "MillTalk$Asks" "MARK_BODIES" "[I" ∈ wsX1_bodyFor := by unfold wsX1_bodyFor; exact List.mem_cons_of_mem _ (List.mem_append_left _ (List.mem_of_getElem? (i := 2) rfl))
theorem mx_X1_answer_3 : Cond.fieldLink RX1 22 "MillTalk$Level" "kinds" "[I" ∈ wsX1_answer := mb_X1_answer_wsX1_answer_r1 (List.mem_of_getElem? (i := 2) rfl)
theorem mx_X1_answer_5 : Cond.fieldLink RX1 30 "MillTalk$Level" "places" "[I" ∈ wsX1_answer := mb_X1_answer_wsX1_answer_r1 (List.mem_of_getElem? (i := 4) rfl)
theorem mx_X1_answer_7 : Cond.fieldLink RX1 36 "MillTalk$Level" "louds" "[I" ∈ wsX1_answer := mb_X1_answer_wsX1_answer_r1 (List.mem_of_getElem? (i := 6) rfl)
