/-! worlds by blocks -/
theorem pmB {Bs Cs : List va_W} (is : List Nat) (n : Nat) (hn : Bs.length = n) (h : is.Perm (List.range n)) (e : is.map (fun i => Bs.getD i []) = Cs) : Bs.Perm Cs := by
  subst hn
  have h1 : (is.map (fun i => Bs.getD i [])).Perm ((List.range Bs.length).map (fun i => Bs.getD i [])) := h.map _
  have h2 : (List.range Bs.length).map (fun i => Bs.getD i []) = Bs := by
    apply List.ext_getElem?
    intro n
    by_cases hn : n < Bs.length
    · simp [hn]
    · simp [hn]
  rw [h2, e] at h1
  exact h1.symm
theorem va_P.pm {D : va_G} {cl : List vw_C} {X Y : va_W} {H : Heap} (h : va_P D cl X H) (hp : X.Perm Y) : va_P D cl Y H := by
  intro k q hk
  have h1 : q ∈ X := hp.mem_iff.mpr (List.mem_of_getElem? hk)
  obtain ⟨i, hi⟩ := List.mem_iff_getElem?.mp h1
  exact h i q hi
theorem va_D.nd {A : Nat → Prop} {X : va_W} (h : va_D A X) : (X.map Prod.fst).Nodup := by
  refine List.pairwise_iff_getElem.mpr (fun i j hi hj hij e => ?_)
  rw [List.length_map] at hi hj
  rw [List.getElem_map, List.getElem_map] at e
  have := h.1 i j X[i] X[j] (List.getElem?_eq_getElem hi) (List.getElem?_eq_getElem hj) e
  omega
theorem va_D.of_nd {A : Nat → Prop} {X : va_W} (hn : (X.map Prod.fst).Nodup) (hA : ∀ q ∈ X, A q.1) : va_D A X := by
  have hn2 := List.pairwise_iff_getElem.mp hn
  refine ⟨fun i j p q hi hj e => ?_, fun k q hk => hA q (List.mem_of_getElem? hk)⟩
  obtain ⟨h1, e1⟩ := List.getElem?_eq_some_iff.mp hi
  obtain ⟨h2, e2⟩ := List.getElem?_eq_some_iff.mp hj
  rcases Nat.lt_trichotomy i j with h | h | h
  · exact absurd (by rw [List.getElem_map, List.getElem_map, e1, e2]; exact e) (hn2 i j (by rw [List.length_map]; exact h1) (by rw [List.length_map]; exact h2) h)
  · exact h
  · exact absurd (by rw [List.getElem_map, List.getElem_map, e1, e2]; exact e.symm) (hn2 j i (by rw [List.length_map]; exact h2) (by rw [List.length_map]; exact h1) h)
theorem va_D.pm {A : Nat → Prop} {X Y : va_W} (h : va_D A X) (hp : X.Perm Y) : va_D A Y := by
  refine va_D.of_nd ((hp.map Prod.fst).nodup_iff.mp h.nd) (fun q hq => ?_)
  obtain ⟨i, hi⟩ := List.mem_iff_getElem?.mp (hp.mem_iff.mpr hq)
  exact h.2 i q hi
theorem va_A_pm {X Y : va_W} {sz : Nat} (hp : X.Perm Y) : ∀ q, va_A X sz q → va_A Y sz q := by
  rintro q (⟨k, e, h⟩ | h)
  · obtain ⟨i, hi⟩ := List.mem_iff_getElem?.mp (hp.mem_iff.mp (List.mem_of_getElem? h))
    exact Or.inl ⟨i, e, hi⟩
  · exact Or.inr h
theorem fl_pm {Bs cs rs : List va_W} (hp : Bs.Perm (cs ++ rs)) : Bs.flatten.Perm (cs.flatten ++ rs.flatten) := by
  rw [← List.flatten_append]
  exact hp.flatten
/-- what a call has of a whole world, what it leaves, and the rest -/
theorem wd_core {dC : Nat → ClassId} {dI : Nat → Nat → Nat} {Bs cs rs c1 Bs1 : List va_W} {H H1 : Heap} {I : va_W → Prop} (hP : va_P (dC, dI) vwCl Bs.flatten H) (hD : va_D (fun _ => True) Bs.flatten) (hp : Bs.Perm (cs ++ rs)) (hk : ∀ q : Nat, q < H.size → ¬ va_A cs.flatten H.size q → H1[q]? = H[q]?) (hP1 : va_P (dC, dI) vwCl c1.flatten H1) (hD1 : va_D (va_A cs.flatten H.size) c1.flatten) (hI : I Bs1.flatten) (hp1 : Bs1.Perm (c1 ++ rs)) :
    ∃ ws1 : va_W, I ws1 ∧ va_P (dC, dI) vwCl ws1 H1 ∧ va_D (va_A Bs.flatten H.size) ws1 := by
  have hf := fl_pm hp
  have hFc : ∀ q, va_A cs.flatten H.size q → va_A Bs.flatten H.size q := fun q h => va_A_pm hf.symm q (vaA_l q h)
  obtain ⟨a1, a2⟩ := jn2 (hP.pm hf) (hD.self.pm hf) hk hFc hP1 hD1
  have hg : (rs.flatten ++ c1.flatten).Perm Bs1.flatten := (List.perm_append_comm).trans (fl_pm hp1).symm
  exact ⟨Bs1.flatten, hI, a1.pm hg, a2.pm hg⟩
theorem wd_Bi {l : Launch} {dC : Nat → ClassId} {dI : Nat → Nat → Nat} {tys : List (ClassId × FieldType)} {y : MethodName} {wsy : List Cond} {rm : Room} {av : List Value} {post post2 : Int32 → Prop} {BP : State → Prop} {Bs cs rs : List va_W} {wc : va_W} {sz : Nat} {I : va_W → Prop} (hM : Met l y wsy rm (va_Pc av (fun U => U.heap.size = sz ∧ va_P (dC, dI) vwCl wc U.heap ∧ va_K (dC, dI) vwCl tys U ∧ va_D (fun _ => True) wc)) (va_Qi (fun r (_ : Unit) => post r) (fun _ t => BP t) (va_A wc sz)) 0 0 (va_A wc sz)) (hw : cs.flatten = wc) (hp : Bs.Perm (cs ++ rs)) (hB : ∀ (t : State) (r : Int32), post r → BP t → post2 r ∧ ∃ c1 Bs1 : List va_W, va_P (dC, dI) vwCl c1.flatten t.heap ∧ va_D (va_A wc sz) c1.flatten ∧ I Bs1.flatten ∧ Bs1.Perm (c1 ++ rs)) :
    Met l y wsy rm (va_Pc av (wpx dC dI tys sz Bs.flatten)) (va_Qi (fun r (_ : Unit) => post2 r) (fun _ t => wox dC dI I sz Bs.flatten t) (va_A Bs.flatten sz)) 0 0 (va_A Bs.flatten sz) := by
  subst hw
  refine Met.cq hM ?_ ?_ (fun q h => va_A_pm (fl_pm hp).symm q (vaA_l q h))
  · rintro a U ⟨ha, hsz, hP, hK, hD, hst⟩
    exact ⟨ha, hsz, lfP (hP.pm (fl_pm hp)), hK, lfD (hD.pm (fl_pm hp))⟩
  · rintro a st o t ⟨ha, hsz, hP, hK, hD, hst⟩ ⟨⟨r, u, e1, e2, hb⟩, hF1⟩
    subst hsz
    obtain ⟨p2, c1, Bs1, hP1, hD1, hI, hp1⟩ := hB t r e2 hb
    exact ⟨⟨r, (), e1, p2, wd_core hP hD hp hF1.2 hP1 hD1 hI hp1⟩, hF1.1, fun q h1 h2 => hF1.2 q h1 (fun z => h2 (va_A_pm (fl_pm hp).symm q (vaA_l q z)))⟩
theorem wd_Bis {l : Launch} {dC : Nat → ClassId} {dI : Nat → Nat → Nat} {tys : List (ClassId × FieldType)} {y : MethodName} {wsy : List Cond} {rm : Room} {av : List Value} {post post2 : Int32 → Prop} {BP : State → Prop} {Bs cs rs : List va_W} {wc : va_W} {sz : Nat} {I : va_W → Prop} (hM : Met l y wsy rm (va_Pc av (fun U => U.heap.size = sz ∧ va_P (dC, dI) vwCl wc U.heap ∧ va_K (dC, dI) vwCl tys U ∧ va_D (fun _ => True) wc ∧ stt (va_A wc sz) U U.heap)) (va_Qi (fun r (_ : Unit) => post r) (fun _ t => BP t) (va_A wc sz)) 0 0 (va_A wc sz)) (hw : cs.flatten = wc) (hp : Bs.Perm (cs ++ rs)) (hB : ∀ (t : State) (r : Int32), post r → BP t → post2 r ∧ ∃ c1 Bs1 : List va_W, va_P (dC, dI) vwCl c1.flatten t.heap ∧ va_D (va_A wc sz) c1.flatten ∧ I Bs1.flatten ∧ Bs1.Perm (c1 ++ rs)) :
    Met l y wsy rm (va_Pc av (wpx dC dI tys sz Bs.flatten)) (va_Qi (fun r (_ : Unit) => post2 r) (fun _ t => wox dC dI I sz Bs.flatten t) (va_A Bs.flatten sz)) 0 0 (va_A Bs.flatten sz) := by
  subst hw
  refine Met.cq hM ?_ ?_ (fun q h => va_A_pm (fl_pm hp).symm q (vaA_l q h))
  · rintro a U ⟨ha, hsz, hP, hK, hD, hst⟩
    exact ⟨ha, hsz, lfP (hP.pm (fl_pm hp)), hK, lfD (hD.pm (fl_pm hp)), stt_narrow hst (fun q h => va_A_pm (fl_pm hp).symm q (vaA_l q h))⟩
  · rintro a st o t ⟨ha, hsz, hP, hK, hD, hst⟩ ⟨⟨r, u, e1, e2, hb⟩, hF1⟩
    subst hsz
    obtain ⟨p2, c1, Bs1, hP1, hD1, hI, hp1⟩ := hB t r e2 hb
    exact ⟨⟨r, (), e1, p2, wd_core hP hD hp hF1.2 hP1 hD1 hI hp1⟩, hF1.1, fun q h1 h2 => hF1.2 q h1 (fun z => h2 (va_A_pm (fl_pm hp).symm q (vaA_l q z)))⟩
theorem wd_Bl {l : Launch} {dC : Nat → ClassId} {dI : Nat → Nat → Nat} {tys : List (ClassId × FieldType)} {y : MethodName} {wsy : List Cond} {rm : Room} {av : List Value} {post post2 : Int64 → Prop} {BP : State → Prop} {Bs cs rs : List va_W} {wc : va_W} {sz : Nat} {I : va_W → Prop} (hM : Met l y wsy rm (va_Pc av (fun U => U.heap.size = sz ∧ va_P (dC, dI) vwCl wc U.heap ∧ va_K (dC, dI) vwCl tys U ∧ va_D (fun _ => True) wc)) (va_Ql (fun r (_ : Unit) => post r) (fun _ t => BP t) (va_A wc sz)) 0 0 (va_A wc sz)) (hw : cs.flatten = wc) (hp : Bs.Perm (cs ++ rs)) (hB : ∀ (t : State) (r : Int64), post r → BP t → post2 r ∧ ∃ c1 Bs1 : List va_W, va_P (dC, dI) vwCl c1.flatten t.heap ∧ va_D (va_A wc sz) c1.flatten ∧ I Bs1.flatten ∧ Bs1.Perm (c1 ++ rs)) :
    Met l y wsy rm (va_Pc av (wpx dC dI tys sz Bs.flatten)) (va_Ql (fun r (_ : Unit) => post2 r) (fun _ t => wox dC dI I sz Bs.flatten t) (va_A Bs.flatten sz)) 0 0 (va_A Bs.flatten sz) := by
  subst hw
  refine Met.cq hM ?_ ?_ (fun q h => va_A_pm (fl_pm hp).symm q (vaA_l q h))
  · rintro a U ⟨ha, hsz, hP, hK, hD, hst⟩
    exact ⟨ha, hsz, lfP (hP.pm (fl_pm hp)), hK, lfD (hD.pm (fl_pm hp))⟩
  · rintro a st o t ⟨ha, hsz, hP, hK, hD, hst⟩ ⟨⟨r, u, e1, e2, hb⟩, hF1⟩
    subst hsz
    obtain ⟨p2, c1, Bs1, hP1, hD1, hI, hp1⟩ := hB t r e2 hb
    exact ⟨⟨r, (), e1, p2, wd_core hP hD hp hF1.2 hP1 hD1 hI hp1⟩, hF1.1, fun q h1 h2 => hF1.2 q h1 (fun z => h2 (va_A_pm (fl_pm hp).symm q (vaA_l q z)))⟩
theorem wd_Bls {l : Launch} {dC : Nat → ClassId} {dI : Nat → Nat → Nat} {tys : List (ClassId × FieldType)} {y : MethodName} {wsy : List Cond} {rm : Room} {av : List Value} {post post2 : Int64 → Prop} {BP : State → Prop} {Bs cs rs : List va_W} {wc : va_W} {sz : Nat} {I : va_W → Prop} (hM : Met l y wsy rm (va_Pc av (fun U => U.heap.size = sz ∧ va_P (dC, dI) vwCl wc U.heap ∧ va_K (dC, dI) vwCl tys U ∧ va_D (fun _ => True) wc ∧ stt (va_A wc sz) U U.heap)) (va_Ql (fun r (_ : Unit) => post r) (fun _ t => BP t) (va_A wc sz)) 0 0 (va_A wc sz)) (hw : cs.flatten = wc) (hp : Bs.Perm (cs ++ rs)) (hB : ∀ (t : State) (r : Int64), post r → BP t → post2 r ∧ ∃ c1 Bs1 : List va_W, va_P (dC, dI) vwCl c1.flatten t.heap ∧ va_D (va_A wc sz) c1.flatten ∧ I Bs1.flatten ∧ Bs1.Perm (c1 ++ rs)) :
    Met l y wsy rm (va_Pc av (wpx dC dI tys sz Bs.flatten)) (va_Ql (fun r (_ : Unit) => post2 r) (fun _ t => wox dC dI I sz Bs.flatten t) (va_A Bs.flatten sz)) 0 0 (va_A Bs.flatten sz) := by
  subst hw
  refine Met.cq hM ?_ ?_ (fun q h => va_A_pm (fl_pm hp).symm q (vaA_l q h))
  · rintro a U ⟨ha, hsz, hP, hK, hD, hst⟩
    exact ⟨ha, hsz, lfP (hP.pm (fl_pm hp)), hK, lfD (hD.pm (fl_pm hp)), stt_narrow hst (fun q h => va_A_pm (fl_pm hp).symm q (vaA_l q h))⟩
  · rintro a st o t ⟨ha, hsz, hP, hK, hD, hst⟩ ⟨⟨r, u, e1, e2, hb⟩, hF1⟩
    subst hsz
    obtain ⟨p2, c1, Bs1, hP1, hD1, hI, hp1⟩ := hB t r e2 hb
    exact ⟨⟨r, (), e1, p2, wd_core hP hD hp hF1.2 hP1 hD1 hI hp1⟩, hF1.1, fun q h1 h2 => hF1.2 q h1 (fun z => h2 (va_A_pm (fl_pm hp).symm q (vaA_l q z)))⟩
theorem wd_PPi {l : Launch} {dC : Nat → ClassId} {dI : Nat → Nat → Nat} {tys : List (ClassId × FieldType)} {y : MethodName} {wsy : List Cond} {rm : Room} {av : List Value} {post post2 : Int32 → Prop} {Bs cs rs : List va_W} {wc : va_W} {sz : Nat} {I : va_W → Prop} (hM : Met l y wsy rm (va_Pc av (fun U => va_P (dC, dI) vwCl wc U.heap ∧ va_K (dC, dI) vwCl tys U)) (vp_Si post) 0 0 (fun _ => False)) (hw : cs.flatten = wc) (hp : Bs.Perm (cs ++ rs)) (hI : I Bs.flatten) (hB : ∀ r : Int32, post r → post2 r) :
    Met l y wsy rm (va_Pc av (wpx dC dI tys sz Bs.flatten)) (va_Qi (fun r (_ : Unit) => post2 r) (fun _ t => wox dC dI I sz Bs.flatten t) (va_A Bs.flatten sz)) 0 0 (va_A Bs.flatten sz) := by
  subst hw
  refine Met.cq hM ?_ ?_ ?_
  · rintro a U ⟨ha, hsz, hP, hK, hD, hst⟩
    exact ⟨ha, lfP (hP.pm (fl_pm hp)), hK⟩
  · rintro a st o t ⟨ha, hsz, hP, hK, hD, hst⟩ ⟨r, e1, e2, e3⟩
    refine ⟨⟨r, (), e1, hB r e2, Bs.flatten, hI, by rw [e3]; exact hP, hD.self⟩, by rw [e3]; exact Nat.le_refl _, fun q _ _ => by rw [e3]⟩
  · exact fun q h => h.elim
theorem wd_PPl {l : Launch} {dC : Nat → ClassId} {dI : Nat → Nat → Nat} {tys : List (ClassId × FieldType)} {y : MethodName} {wsy : List Cond} {rm : Room} {av : List Value} {post post2 : Int64 → Prop} {Bs cs rs : List va_W} {wc : va_W} {sz : Nat} {I : va_W → Prop} (hM : Met l y wsy rm (va_Pc av (fun U => va_P (dC, dI) vwCl wc U.heap ∧ va_K (dC, dI) vwCl tys U)) (vp_Sl post) 0 0 (fun _ => False)) (hw : cs.flatten = wc) (hp : Bs.Perm (cs ++ rs)) (hI : I Bs.flatten) (hB : ∀ r : Int64, post r → post2 r) :
    Met l y wsy rm (va_Pc av (wpx dC dI tys sz Bs.flatten)) (va_Ql (fun r (_ : Unit) => post2 r) (fun _ t => wox dC dI I sz Bs.flatten t) (va_A Bs.flatten sz)) 0 0 (va_A Bs.flatten sz) := by
  subst hw
  refine Met.cq hM ?_ ?_ ?_
  · rintro a U ⟨ha, hsz, hP, hK, hD, hst⟩
    exact ⟨ha, lfP (hP.pm (fl_pm hp)), hK⟩
  · rintro a st o t ⟨ha, hsz, hP, hK, hD, hst⟩ ⟨r, e1, e2, e3⟩
    refine ⟨⟨r, (), e1, hB r e2, Bs.flatten, hI, by rw [e3]; exact hP, hD.self⟩, by rw [e3]; exact Nat.le_refl _, fun q _ _ => by rw [e3]⟩
  · exact fun q h => h.elim
set_option maxRecDepth 100000 in
noncomputable def isXO (cI cZ cL cJ : ClassId) (x ro ta no ac im tr pl cs ak : Nat) (lf : Int32) (B0 : va_W) : Prop := ∃ (xf : Int32) (xg : Int32), B0 = [(xo_7_rrrrrrrrrii x ro ta no ac im tr pl cs ak xf xg)] ∧ lf = xf
set_option maxRecDepth 100000 in
noncomputable def isROWS (cI cZ cL cJ : ClassId) (ro : Nat) (Rl : Nat → Int32) (Rn : Nat → Int32) (B0 B1 B2 B3 : va_W) : Prop := ∃ (it : Nat) (la : Nat) (le : Nat) (fl : Nat → Int32) (fe : Nat → Int32) (y0 : Nat) (y1 : Nat) (y2 : Nat) (y3 : Nat) (y4 : Nat) (y5 : Nat) (y6 : Nat) (y7 : Nat) (f0 : Nat → Int32) (f1 : Nat → Int32) (f2 : Nat → Int32) (f3 : Nat → Int32) (f4 : Nat → Int32) (f5 : Nat → Int32) (f6 : Nat → Int32) (f7 : Nat → Int32) (fi : Nat → Option Nat), B0 = [(xo_5_rrr ro it la le)] ∧ B1 = [(xI la cI 8 fl)] ∧ B2 = [(xI le cI 8 fe)] ∧ B3 = [(xJ it cJ 8 fi), (xI y0 cI 40 f0), (xI y1 cI 40 f1), (xI y2 cI 40 f2), (xI y3 cI 40 f3), (xI y4 cI 40 f4), (xI y5 cI 40 f5), (xI y6 cI 40 f6), (xI y7 cI 40 f7)] ∧ (fi 0 = some y0 ∧ fi 1 = some y1 ∧ fi 2 = some y2 ∧ fi 3 = some y3 ∧ fi 4 = some y4 ∧ fi 5 = some y5 ∧ fi 6 = some y6 ∧ fi 7 = some y7) ∧ (∀ jq : Nat, jq < 8 → ∃ q : Nat, q ≤ 40 ∧ fe jq = nI q) ∧ Rl = (abl fl) ∧ Rn = (abn fl fe)
set_option maxRecDepth 100000 in
noncomputable def isTAPE (cI cZ cL cJ : ClassId) (ta : Nat) (zt : Nat) (Tb : Nat → Int32) (B0 B1 B2 : va_W) : Prop := ∃ (bs : Nat) (td : Nat) (tz : Nat) (tfp : Int32) (tf_ : Int32) (tk_ : Int32) (tfb : Nat → Int32) (tv0 : Int32) (tv1 : Int32) (tv2 : Int32) (tv3 : Int32) (tv5 : Int32) (thh : Nat) (tww : Nat) (tkk : Nat) (tb1 : Nat) (tb2 : Nat) (tb3 : Nat) (tb4 : Nat) (tb5 : Nat) (tg1 : Nat → Int32) (tg2 : Nat → Int32) (tg3 : Nat → Int32) (tg4 : Nat → Int32) (tg5 : Nat → Int32), B0 = [(xo_6_ririii ta bs (nI tz) td tfp tf_ tk_)] ∧ B1 = [(xI bs cI 120 tfb)] ∧ B2 = [(xo_3_iiiiiiiirrrrr td tv0 tv1 tv2 tv3 (nI thh) tv5 (nI tww) (nI tkk) tb1 tb2 tb3 tb4 tb5), (xI tb1 cI 6 tg1), (xI tb2 cI 6 tg2), (xI tb3 cI 6 tg3), (xI tb4 cI 6 tg4), (xI tb5 cI 6 tg5)] ∧ (tz ≤ 120) ∧ (thh ≤ 999) ∧ (tww ≤ 6) ∧ (tkk ≤ 6) ∧ (okT tfb tz) ∧ zt = tz ∧ Tb = tfb
set_option maxRecDepth 100000 in
noncomputable def isNOW (cI cZ cL cJ : ClassId) (no : Nat) (Lv : Nat → Int32) (B0 : va_W) : Prop := ∃ (nv0 : Int32) (nv1 : Int32) (nv2 : Int32) (nv3 : Int32) (nv5 : Int32) (nhh : Nat) (nww : Nat) (nkk : Nat) (nb1 : Nat) (nb2 : Nat) (nb3 : Nat) (nb4 : Nat) (nb5 : Nat) (ng1 : Nat → Int32) (ng2 : Nat → Int32) (ng3 : Nat → Int32) (ng4 : Nat → Int32) (ng5 : Nat → Int32), B0 = [(xo_3_iiiiiiiirrrrr no nv0 nv1 nv2 nv3 (nI nhh) nv5 (nI nww) (nI nkk) nb1 nb2 nb3 nb4 nb5), (xI nb1 cI 6 ng1), (xI nb2 cI 6 ng2), (xI nb3 cI 6 ng3), (xI nb4 cI 6 ng4), (xI nb5 cI 6 ng5)] ∧ (nhh ≤ 999) ∧ (nww ≤ 6) ∧ (nkk ≤ 6) ∧ Lv = (nrm nv0 nv1 nv2 nv3 nhh nv5 nww nkk ng1 ng2 ng3 ng4 ng5)
set_option maxRecDepth 100000 in
noncomputable def isACTS (cI cZ cL cJ : ClassId) (ac : Nat) (An : Nat) (Ac : Nat → Nat → Int32) (B0 B1 B2 : va_W) : Prop := ∃ (abe : Nat) (aq : Nat) (az : Nat) (afb : Nat → Option Nat) (aad : Nat → Nat) (abd : Nat → Nat → Nat) (aV : Nat → Nat → Int32) (aG : Nat → Nat → Nat → Int32), B0 = [(xo_0_rii ac abe (nI aq) (nI az))] ∧ B1 = [(xJ abe cL 24 afb)] ∧ B2 = lvs cI 24 aad abd aV aG ∧ (∀ i : Nat, i < 24 → afb i = some (aad i)) ∧ (∀ i : Nat, i < 24 → okL (aV i)) ∧ (aq < 24) ∧ (az ≤ 24) ∧ An = az ∧ Ac = (acX aq az aV aG)
set_option maxRecDepth 100000 in
noncomputable def isIMG (cI cZ cL cJ : ClassId) (im : Nat) (I0 : Nat → Int32) (I1 : Nat → Int32) (B0 B1 B2 : va_W) : Prop := ∃ (imf : Nat → Option Nat) (i0 : Nat) (i0v0 : Int32) (i0v1 : Int32) (i0v2 : Int32) (i0v3 : Int32) (i0v5 : Int32) (i0h : Nat) (i0w : Nat) (i0k : Nat) (i0b1 : Nat) (i0b2 : Nat) (i0b3 : Nat) (i0b4 : Nat) (i0b5 : Nat) (i0g1 : Nat → Int32) (i0g2 : Nat → Int32) (i0g3 : Nat → Int32) (i0g4 : Nat → Int32) (i0g5 : Nat → Int32) (i1 : Nat) (i1v0 : Int32) (i1v1 : Int32) (i1v2 : Int32) (i1v3 : Int32) (i1v5 : Int32) (i1h : Nat) (i1w : Nat) (i1k : Nat) (i1b1 : Nat) (i1b2 : Nat) (i1b3 : Nat) (i1b4 : Nat) (i1b5 : Nat) (i1g1 : Nat → Int32) (i1g2 : Nat → Int32) (i1g3 : Nat → Int32) (i1g4 : Nat → Int32) (i1g5 : Nat → Int32), B0 = [(xJ im cL 2 imf)] ∧ B1 = [(xo_3_iiiiiiiirrrrr i0 i0v0 i0v1 i0v2 i0v3 (nI i0h) i0v5 (nI i0w) (nI i0k) i0b1 i0b2 i0b3 i0b4 i0b5), (xI i0b1 cI 6 i0g1), (xI i0b2 cI 6 i0g2), (xI i0b3 cI 6 i0g3), (xI i0b4 cI 6 i0g4), (xI i0b5 cI 6 i0g5)] ∧ B2 = [(xo_3_iiiiiiiirrrrr i1 i1v0 i1v1 i1v2 i1v3 (nI i1h) i1v5 (nI i1w) (nI i1k) i1b1 i1b2 i1b3 i1b4 i1b5), (xI i1b1 cI 6 i1g1), (xI i1b2 cI 6 i1g2), (xI i1b3 cI 6 i1g3), (xI i1b4 cI 6 i1g4), (xI i1b5 cI 6 i1g5)] ∧ (imf 0 = some i0) ∧ (imf 1 = some i1) ∧ (i0h ≤ 999) ∧ (i0w ≤ 6) ∧ (i0k ≤ 6) ∧ (i1h ≤ 999) ∧ (i1w ≤ 6) ∧ (i1k ≤ 6) ∧ I0 = (nrm i0v0 i0v1 i0v2 i0v3 i0h i0v5 i0w i0k i0g1 i0g2 i0g3 i0g4 i0g5) ∧ I1 = (nrm i1v0 i1v1 i1v2 i1v3 i1h i1v5 i1w i1k i1g1 i1g2 i1g3 i1g4 i1g5)
set_option maxRecDepth 100000 in
noncomputable def isTRY (cI cZ cL cJ : ClassId) (tr : Nat)  (B0 : va_W) : Prop := ∃ (qu0 : Int32) (qu1 : Int32) (qu2 : Int32) (qu3 : Int32) (qu4 : Int32) (qu5 : Int32) (qu6 : Int32) (qu7 : Int32) (qb1 : Nat) (qb2 : Nat) (qb3 : Nat) (qb4 : Nat) (qb5 : Nat) (qf1 : Nat → Int32) (qf2 : Nat → Int32) (qf3 : Nat → Int32) (qf4 : Nat → Int32) (qf5 : Nat → Int32), B0 = [(xo_3_iiiiiiiirrrrr tr qu0 qu1 qu2 qu3 qu4 qu5 qu6 qu7 qb1 qb2 qb3 qb4 qb5), (xI qb1 cI 6 qf1), (xI qb2 cI 6 qf2), (xI qb3 cI 6 qf3), (xI qb4 cI 6 qf4), (xI qb5 cI 6 qf5)]
set_option maxRecDepth 100000 in
noncomputable def isPLAY (cI cZ cL cJ : ClassId) (pl : Nat)  (B0 B1 B2 : va_W) : Prop := ∃ (bo : Nat) (ou : Nat) (phr : Int32) (bu0 : Int32) (bu1 : Int32) (bu2 : Int32) (bu3 : Int32) (bu4 : Int32) (bu5 : Int32) (bu6 : Int32) (bu7 : Int32) (ou0 : Int32) (ou1 : Int32) (ou2 : Int32) (ou3 : Int32) (ou4 : Int32) (ou5 : Int32) (ou6 : Int32) (ou7 : Int32) (bb1 : Nat) (ob1 : Nat) (bb2 : Nat) (ob2 : Nat) (bb3 : Nat) (ob3 : Nat) (bb4 : Nat) (ob4 : Nat) (bb5 : Nat) (ob5 : Nat) (bf1 : Nat → Int32) (of1 : Nat → Int32) (bf2 : Nat → Int32) (of2 : Nat → Int32) (bf3 : Nat → Int32) (of3 : Nat → Int32) (bf4 : Nat → Int32) (of4 : Nat → Int32) (bf5 : Nat → Int32) (of5 : Nat → Int32), B0 = [(xo_4_rri pl bo ou phr)] ∧ B1 = [(xo_3_iiiiiiiirrrrr bo bu0 bu1 bu2 bu3 bu4 bu5 bu6 bu7 bb1 bb2 bb3 bb4 bb5), (xI bb1 cI 6 bf1), (xI bb2 cI 6 bf2), (xI bb3 cI 6 bf3), (xI bb4 cI 6 bf4), (xI bb5 cI 6 bf5)] ∧ B2 = [(xo_3_iiiiiiiirrrrr ou ou0 ou1 ou2 ou3 ou4 ou5 ou6 ou7 ob1 ob2 ob3 ob4 ob5), (xI ob1 cI 6 of1), (xI ob2 cI 6 of2), (xI ob3 cI 6 of3), (xI ob4 cI 6 of4), (xI ob5 cI 6 of5)]
set_option maxRecDepth 100000 in
noncomputable def isCAPS (cI cZ cL cJ : ClassId) (cs : Nat)  (B0 B1 B2 : va_W) : Prop := ∃ (cbe : Nat) (hrs : Int32) (wa : Int32) (br : Int32) (bw : Int32) (bt : Int32) (cfb : Nat → Option Nat) (cad : Nat → Nat) (cbd : Nat → Nat → Nat) (cV : Nat → Nat → Int32) (cG : Nat → Nat → Nat → Int32), B0 = [(xo_2_riiiii cs cbe hrs wa br bw bt)] ∧ B1 = [(xJ cbe cL 9 cfb)] ∧ B2 = lvs cI 9 cad cbd cV cG ∧ (∀ i : Nat, i < 9 → cfb i = some (cad i))
set_option maxRecDepth 100000 in
noncomputable def isASKS (cI cZ cL cJ : ClassId) (ak : Nat) (Tz : Nat) (Tc : Nat → Int32) (B0 B1 : va_W) : Prop := ∃ (tc : Nat) (kz : Nat) (nu : Int32) (ki : Int32) (ce : Int32) (lo : Int32) (ft : Nat → Int32), B0 = [(xo_1_riiiii ak tc (nI kz) nu ki ce lo)] ∧ B1 = [(xI tc cI 16 ft)] ∧ (kz ≤ 16) ∧ Tz = kz ∧ Tc = ft
set_option maxRecDepth 100000 in
noncomputable def ISX (cI cZ cL cJ : ClassId) (x : Nat) (Rl : Nat → Int32) (Rn : Nat → Int32) (zt : Nat) (Tb : Nat → Int32) (lf : Int32) (Lv : Nat → Int32) (An : Nat) (Ac : Nat → Nat → Int32) (I0 : Nat → Int32) (I1 : Nat → Int32) (Tz : Nat) (Tc : Nat → Int32) (ws : va_W) : Prop := ∃ (ro ta no ac im tr pl cs ak : Nat) (B0 B1 B2 B3 B4 B5 B6 B7 B8 B9 B10 B11 B12 B13 B14 B15 B16 B17 B18 B19 B20 B21 B22 B23 : va_W), ws = ([B0, B1, B2, B3, B4, B5, B6, B7, B8, B9, B10, B11, B12, B13, B14, B15, B16, B17, B18, B19, B20, B21, B22, B23] : List va_W).flatten ∧ isXO cI cZ cL cJ x ro ta no ac im tr pl cs ak lf B0 ∧ isROWS cI cZ cL cJ ro Rl Rn B1 B2 B3 B4 ∧ isTAPE cI cZ cL cJ ta zt Tb B5 B6 B7 ∧ isNOW cI cZ cL cJ no Lv B8 ∧ isACTS cI cZ cL cJ ac An Ac B9 B10 B11 ∧ isIMG cI cZ cL cJ im I0 I1 B12 B13 B14 ∧ isTRY cI cZ cL cJ tr  B15 ∧ isPLAY cI cZ cL cJ pl  B16 B17 B18 ∧ isCAPS cI cZ cL cJ cs  B19 B20 B21 ∧ isASKS cI cZ cL cJ ak Tz Tc B22 B23
set_option maxRecDepth 100000 in
noncomputable def isMODEL (cI cZ cL cJ : ClassId) (mo : Nat) (Rl : Nat → Int32) (Rn : Nat → Int32) (zt : Nat) (Tb : Nat → Int32) (lf : Int32) (Lv : Nat → Int32) (An : Nat) (Ac : Nat → Nat → Int32) (I0 : Nat → Int32) (I1 : Nat → Int32) (Tz : Nat) (Tc : Nat → Int32) (B0 B1 B2 B3 B4 B5 B6 B7 B8 B9 B10 B11 B12 B13 : va_W) : Prop := ∃ (ad : Nat → Nat) (iv : Nat → Int32) (gf : Nat → Nat → Int32) (mz : Nat) (mp : Nat) (ma : Nat) (mx : Nat) (w9 : Nat) (k9 : Nat) (h9 : Nat), B0 = [(xo_8_rrriirrriiiiiiirrirrrrri mo (ad 0) (ad 1) (ad 2) (iv 0) (iv 1) (ad 3) (ad 4) (ad 5) (nI mz) (iv 2) (nI mp) (iv 3) (iv 4) (iv 5) (iv 6) (ad 6) (ad 7) (nI ma) (ad 8) (ad 9) (ad 10) (ad 11) (ad 12) (nI mx))] ∧ B1 = [(xI (ad 0) cI 8 (gf 0))] ∧ B2 = [(xI (ad 1) cI 8 (gf 1))] ∧ B3 = [(xI (ad 2) cI 320 (gf 2))] ∧ B4 = [(xI (ad 3) cI 38 (gf 3))] ∧ B5 = [(xI (ad 4) cI 40 (gf 4))] ∧ B6 = [(xI (ad 5) cI 120 (gf 5))] ∧ B7 = [(xI (ad 6) cI 38 (gf 6))] ∧ B8 = [(xI (ad 7) cI 912 (gf 7))] ∧ B9 = [(xI (ad 8) cI 38 (gf 8))] ∧ B10 = [(xI (ad 9) cI 16 (gf 9))] ∧ B11 = [(xI (ad 10) cZ 2 (gf 10))] ∧ B12 = [(xI (ad 11) cI 76 (gf 11))] ∧ B13 = [(xI (ad 12) cI 16 (gf 12))] ∧ (okM (gf 3) w9 k9 h9) ∧ (¬ (iv 1) = 0 → 1 ≤ k9) ∧ (h9 ≤ 999) ∧ ((iv 1) = 0 → (gf 3) 0 = 0 ∧ ma = 0) ∧ (okA (gf 7) ma) ∧ (ma ≤ 24) ∧ (okKP (gf 10) (gf 11)) ∧ ((iv 1) = 0 → (gf 10) 0 = 0 ∧ (gf 10) 1 = 0) ∧ (mz ≤ 120) ∧ (mx ≤ 16) ∧ (∀ j : Nat, j < 8 → (gf 1) j = -1 ∨ ∃ q : Nat, q ≤ 40 ∧ (gf 1) j = nI q) ∧ (∀ j : Nat, j < 8 → ¬ (gf 1) j = -1 → ¬ (gf 0) j = -1) ∧ Rl = (mbl (gf 0) (gf 1)) ∧ Rn = (mbn (gf 1)) ∧ zt = mz ∧ Tb = (gf 5) ∧ lf = (iv 2) ∧ Lv = (m38 (gf 3)) ∧ An = ma ∧ Ac = (acM (gf 7) ma) ∧ I0 = (imM (gf 10) (gf 11) 0) ∧ I1 = (imM (gf 10) (gf 11) 1) ∧ Tz = mx ∧ Tc = (gf 12)
set_option maxRecDepth 100000 in
noncomputable def ISM (cI cZ cL cJ : ClassId) (mo : Nat) (Rl : Nat → Int32) (Rn : Nat → Int32) (zt : Nat) (Tb : Nat → Int32) (lf : Int32) (Lv : Nat → Int32) (An : Nat) (Ac : Nat → Nat → Int32) (I0 : Nat → Int32) (I1 : Nat → Int32) (Tz : Nat) (Tc : Nat → Int32) (ws : va_W) : Prop := ∃ (B0 B1 B2 B3 B4 B5 B6 B7 B8 B9 B10 B11 B12 B13 : va_W), ws = ([B0, B1, B2, B3, B4, B5, B6, B7, B8, B9, B10, B11, B12, B13] : List va_W).flatten ∧ isMODEL cI cZ cL cJ mo Rl Rn zt Tb lf Lv An Ac I0 I1 Tz Tc B0 B1 B2 B3 B4 B5 B6 B7 B8 B9 B10 B11 B12 B13
set_option maxRecDepth 100000 in
theorem ISX_el {P : Prop} {cI cZ cL cJ : ClassId} {x : Nat} {Rl : Nat → Int32} {Rn : Nat → Int32} {zt : Nat} {Tb : Nat → Int32} {lf : Int32} {Lv : Nat → Int32} {An : Nat} {Ac : Nat → Nat → Int32} {I0 : Nat → Int32} {I1 : Nat → Int32} {Tz : Nat} {Tc : Nat → Int32} {ws : va_W} (h : ISX cI cZ cL cJ x Rl Rn zt Tb lf Lv An Ac I0 I1 Tz Tc ws) (k : ∀ (ro ta no ac im tr pl cs ak : Nat) (B0 B1 B2 B3 B4 B5 B6 B7 B8 B9 B10 B11 B12 B13 B14 B15 B16 B17 B18 B19 B20 B21 B22 B23 : va_W), ws = ([B0, B1, B2, B3, B4, B5, B6, B7, B8, B9, B10, B11, B12, B13, B14, B15, B16, B17, B18, B19, B20, B21, B22, B23] : List va_W).flatten → isXO cI cZ cL cJ x ro ta no ac im tr pl cs ak lf B0 → isROWS cI cZ cL cJ ro Rl Rn B1 B2 B3 B4 → isTAPE cI cZ cL cJ ta zt Tb B5 B6 B7 → isNOW cI cZ cL cJ no Lv B8 → isACTS cI cZ cL cJ ac An Ac B9 B10 B11 → isIMG cI cZ cL cJ im I0 I1 B12 B13 B14 → isTRY cI cZ cL cJ tr  B15 → isPLAY cI cZ cL cJ pl  B16 B17 B18 → isCAPS cI cZ cL cJ cs  B19 B20 B21 → isASKS cI cZ cL cJ ak Tz Tc B22 B23 → P) : P := by
  obtain ⟨ro, ta, no, ac, im, tr, pl, cs, ak, B0, B1, B2, B3, B4, B5, B6, B7, B8, B9, B10, B11, B12, B13, B14, B15, B16, B17, B18, B19, B20, B21, B22, B23, e9, g9_0, g9_1, g9_2, g9_3, g9_4, g9_5, g9_6, g9_7, g9_8, g9_9⟩ := h
  exact k ro ta no ac im tr pl cs ak B0 B1 B2 B3 B4 B5 B6 B7 B8 B9 B10 B11 B12 B13 B14 B15 B16 B17 B18 B19 B20 B21 B22 B23 e9 g9_0 g9_1 g9_2 g9_3 g9_4 g9_5 g9_6 g9_7 g9_8 g9_9
set_option maxRecDepth 100000 in
theorem ISM_el {P : va_W → Prop} {cI cZ cL cJ : ClassId} {mo : Nat} {Rl : Nat → Int32} {Rn : Nat → Int32} {zt : Nat} {Tb : Nat → Int32} {lf : Int32} {Lv : Nat → Int32} {An : Nat} {Ac : Nat → Nat → Int32} {I0 : Nat → Int32} {I1 : Nat → Int32} {Tz : Nat} {Tc : Nat → Int32} {ws : va_W} (h : ISM cI cZ cL cJ mo Rl Rn zt Tb lf Lv An Ac I0 I1 Tz Tc ws) (k : ∀ (ad : Nat → Nat) (iv : Nat → Int32) (gf : Nat → Nat → Int32) (mz : Nat) (mp : Nat) (ma : Nat) (mx : Nat) (w9 : Nat) (k9 : Nat) (h9 : Nat), (okM (gf 3) w9 k9 h9) → (¬ (iv 1) = 0 → 1 ≤ k9) → (h9 ≤ 999) → ((iv 1) = 0 → (gf 3) 0 = 0 ∧ ma = 0) → (okA (gf 7) ma) → (ma ≤ 24) → (okKP (gf 10) (gf 11)) → ((iv 1) = 0 → (gf 10) 0 = 0 ∧ (gf 10) 1 = 0) → (mz ≤ 120) → (mx ≤ 16) → (∀ j : Nat, j < 8 → (gf 1) j = -1 ∨ ∃ q : Nat, q ≤ 40 ∧ (gf 1) j = nI q) → (∀ j : Nat, j < 8 → ¬ (gf 1) j = -1 → ¬ (gf 0) j = -1) → Rl = (mbl (gf 0) (gf 1)) → Rn = (mbn (gf 1)) → zt = mz → Tb = (gf 5) → lf = (iv 2) → Lv = (m38 (gf 3)) → An = ma → Ac = (acM (gf 7) ma) → I0 = (imM (gf 10) (gf 11) 0) → I1 = (imM (gf 10) (gf 11) 1) → Tz = mx → Tc = (gf 12) → ISM cI cZ cL cJ mo Rl Rn zt Tb lf Lv An Ac I0 I1 Tz Tc (([[(xo_8_rrriirrriiiiiiirrirrrrri mo (ad 0) (ad 1) (ad 2) (iv 0) (iv 1) (ad 3) (ad 4) (ad 5) (nI mz) (iv 2) (nI mp) (iv 3) (iv 4) (iv 5) (iv 6) (ad 6) (ad 7) (nI ma) (ad 8) (ad 9) (ad 10) (ad 11) (ad 12) (nI mx))], [(xI (ad 0) cI 8 (gf 0))], [(xI (ad 1) cI 8 (gf 1))], [(xI (ad 2) cI 320 (gf 2))], [(xI (ad 3) cI 38 (gf 3))], [(xI (ad 4) cI 40 (gf 4))], [(xI (ad 5) cI 120 (gf 5))], [(xI (ad 6) cI 38 (gf 6))], [(xI (ad 7) cI 912 (gf 7))], [(xI (ad 8) cI 38 (gf 8))], [(xI (ad 9) cI 16 (gf 9))], [(xI (ad 10) cZ 2 (gf 10))], [(xI (ad 11) cI 76 (gf 11))], [(xI (ad 12) cI 16 (gf 12))]] : List va_W).flatten) → P (([[(xo_8_rrriirrriiiiiiirrirrrrri mo (ad 0) (ad 1) (ad 2) (iv 0) (iv 1) (ad 3) (ad 4) (ad 5) (nI mz) (iv 2) (nI mp) (iv 3) (iv 4) (iv 5) (iv 6) (ad 6) (ad 7) (nI ma) (ad 8) (ad 9) (ad 10) (ad 11) (ad 12) (nI mx))], [(xI (ad 0) cI 8 (gf 0))], [(xI (ad 1) cI 8 (gf 1))], [(xI (ad 2) cI 320 (gf 2))], [(xI (ad 3) cI 38 (gf 3))], [(xI (ad 4) cI 40 (gf 4))], [(xI (ad 5) cI 120 (gf 5))], [(xI (ad 6) cI 38 (gf 6))], [(xI (ad 7) cI 912 (gf 7))], [(xI (ad 8) cI 38 (gf 8))], [(xI (ad 9) cI 16 (gf 9))], [(xI (ad 10) cZ 2 (gf 10))], [(xI (ad 11) cI 76 (gf 11))], [(xI (ad 12) cI 16 (gf 12))]] : List va_W).flatten)) : P ws := by
  have hI9 := h
  obtain ⟨B0, B1, B2, B3, B4, B5, B6, B7, B8, B9, B10, B11, B12, B13, rfl, g9⟩ := h
  obtain ⟨ad, iv, gf, mz, mp, ma, mx, w9, k9, h9, rfl, rfl, rfl, rfl, rfl, rfl, rfl, rfl, rfl, rfl, rfl, rfl, rfl, rfl, f9_0, f9_1, f9_2, f9_3, f9_4, f9_5, f9_6, f9_7, f9_8, f9_9, f9_10, f9_11, a9_0, a9_1, a9_2, a9_3, a9_4, a9_5, a9_6, a9_7, a9_8, a9_9, a9_10, a9_11⟩ := g9
  exact k ad iv gf mz mp ma mx w9 k9 h9 f9_0 f9_1 f9_2 f9_3 f9_4 f9_5 f9_6 f9_7 f9_8 f9_9 f9_10 f9_11 a9_0 a9_1 a9_2 a9_3 a9_4 a9_5 a9_6 a9_7 a9_8 a9_9 a9_10 a9_11 hI9

