/-! a method over a whole world -/
theorem Met.cq {l : Launch} {y : MethodName} {ws : List Cond} {rm : Room} {Pc Pc' : Array Value → State → Prop} {Qc Qc' : Array Value → State → Outcome → State → Prop} {mc ms : Nat} {free free' : Addr → Prop} (hM : Met l y ws rm Pc Qc mc ms free) (h1 : ∀ a U, Pc' a U → Pc a U) (h2 : ∀ a st o t, Pc' a st → Qc a st o t → Qc' a st o t) (hf : ∀ q, free q → free' q) : Met l y ws rm Pc' Qc' mc ms free' := by
  intro p e ha hc hk s m args below hfr hsp hP hK
  obtain ⟨n, o, a1, a2, a3, hq, L, hL, hfree⟩ := hM p e ha hc hk s m args below hfr hsp (h1 _ _ hP) hK
  exact ⟨n, o, a1, a2, a3, h2 _ _ _ _ hP hq, L, hL, fun q hq => hf _ (hfree q hq)⟩
theorem lfP {D : va_G} {cl : List vw_C} {a b : va_W} {H : Heap} (h : va_P D cl (a ++ b) H) : va_P D cl a H := fun k q hk => h k q (by rw [List.getElem?_append_left (List.getElem?_eq_some_iff.mp hk).1]; exact hk)
theorem rtP {D : va_G} {cl : List vw_C} {a b : va_W} {H : Heap} (h : va_P D cl (a ++ b) H) : va_P D cl b H := fun k q hk => h (a.length + k) q (by rw [List.getElem?_append_right (by omega)]; rw [show a.length + k - a.length = k by omega]; exact hk)
theorem lfD {A : Nat → Prop} {a b : va_W} (h : va_D A (a ++ b)) : va_D A a := by
  have g : ∀ (k : Nat) (q : Nat × va_E), a[k]? = some q → (a ++ b)[k]? = some q := fun k q hk => by rw [List.getElem?_append_left (List.getElem?_eq_some_iff.mp hk).1]; exact hk
  exact ⟨fun i j p q hi hj e => h.1 i j p q (g i p hi) (g j q hj) e, fun k q hk => h.2 k q (g k q hk)⟩
theorem rtD {A : Nat → Prop} {a b : va_W} (h : va_D A (a ++ b)) : va_D A b := by
  have g : ∀ (k : Nat) (q : Nat × va_E), b[k]? = some q → (a ++ b)[a.length + k]? = some q := fun k q hk => by rw [List.getElem?_append_right (by omega), show a.length + k - a.length = k by omega]; exact hk
  exact ⟨fun i j p q hi hj e => by have := h.1 _ _ p q (g i p hi) (g j q hj) e; omega, fun k q hk => h.2 _ q (g k q hk)⟩
/-- the cells of one part are apart from those of the other -/
theorem apD {A : Nat → Prop} {a b : va_W} (h : va_D A (a ++ b)) {i j : Nat} {p q : Nat × va_E} (hi : a[i]? = some p) (hj : b[j]? = some q) : p.1 ≠ q.1 := by
  intro e
  have h1 := List.getElem?_eq_some_iff.mp hi
  have g1 : (a ++ b)[i]? = some p := by rw [List.getElem?_append_left h1.1]; exact hi
  have g2 : (a ++ b)[a.length + j]? = some q := by rw [List.getElem?_append_right (by omega), show a.length + j - a.length = j by omega]; exact hj
  have := h.1 _ _ p q g1 g2 e
  have := h1.1
  omega
/-- a world of two parts: a call that has the first alone -/
theorem jn2 {A0 : Nat → Prop} {D : va_G} {cl : List vw_C} {wc wr w1 : va_W} {H H1 : Heap} (hP : va_P D cl (wc ++ wr) H) (hD : va_D A0 (wc ++ wr)) (hk : ∀ q : Nat, q < H.size → ¬ va_A wc H.size q → H1[q]? = H[q]?) (hF : ∀ q, va_A wc H.size q → A0 q) (hP1 : va_P D cl w1 H1) (hD1 : va_D (va_A wc H.size) w1) : va_P D cl (wr ++ w1) H1 ∧ va_D A0 (wr ++ w1) := by
  have apart : ∀ (k : Nat) (q : Nat × va_E), wr[k]? = some q → q.1 < H.size ∧ ¬ va_A wc H.size q.1 := by
    intro k q hq
    have hl := (rtP hP k q hq).lt
    refine ⟨hl, fun h => ?_⟩
    rcases h with ⟨k2, e, h⟩ | h
    · exact apD hD h hq rfl
    · omega
  refine ⟨va_P.app (fun k q hq => ?_) hP1, va_D.app (rtD hD) (hD1.weaken (fun k q _ h => hF q.1 h)) (fun i j x y hx hy hxy => ?_)⟩
  · obtain ⟨g1, g2⟩ := apart k q hq
    exact (rtP hP k q hq).kept (hk q.1 g1 g2)
  · exact (apart i x hx).2 (by rw [hxy]; exact hD1.2 j y hy)
/-- beside what a call can reach there is more than cells: another tail -/
theorem jT {A0 : Nat → Prop} {D : va_G} {cl : List vw_C} {X cx wr rx ex pl pl1 : va_W} {H H1 : Heap} (hP : va_P D cl ((X ++ pl) ++ ex) H) (hD : va_D A0 ((X ++ pl) ++ ex)) (isC isR : List Nat) (hC : isC.map (fun i => X[i]?) = cx.map some) (hR : isR.map (fun i => X[i]?) = wr.map some) (hn : va_nd isR = true) (hdis : ∀ i ∈ isR, i ∉ isC)
    (hk : ∀ q : Nat, q < H.size → ¬ va_A (cx ++ pl) H.size q → H1[q]? = H[q]?) (hF : ∀ q, va_A (cx ++ pl) H.size q → A0 q) (hP1 : va_P D cl (rx ++ pl1) H1) (hD1 : va_D (va_A (cx ++ pl) H.size) (rx ++ pl1)) : va_P D cl (((wr ++ rx) ++ pl1) ++ ex) H1 ∧ va_D A0 (((wr ++ rx) ++ pl1) ++ ex) := by
  obtain ⟨a1, a2⟩ := va_joinP (lfP hP) (lfD hD) isC isR hC hR hn hdis hk hF hP1 hD1
  have apart : ∀ (k : Nat) (q : Nat × va_E), ex[k]? = some q → q.1 < H.size ∧ ¬ va_A (cx ++ pl) H.size q.1 := by
    intro k q hq
    have hl := (rtP hP k q hq).lt
    refine ⟨hl, fun h => ?_⟩
    rcases h with ⟨k2, e, h⟩ | h
    · exact apD hD (va_part isC hC k2 _ h) hq rfl
    · omega
  refine ⟨va_P.app a1 (fun k q hq => ?_), va_D.app a2 (rtD hD) (fun i j x y hx hy hxy => ?_)⟩
  · obtain ⟨g1, g2⟩ := apart k q hq
    exact (rtP hP k q hq).kept (hk q.1 g1 g2)
  · rw [List.append_assoc] at hx
    by_cases hi : i < wr.length
    · rw [List.getElem?_append_left hi] at hx
      have h1 : (isR.map (fun i => X[i]?))[i]? = some (some x) := by rw [hR, List.getElem?_map, hx]; rfl
      rw [List.getElem?_map] at h1
      cases h2 : isR[i]? with
      | none => rw [h2] at h1; cases h1
      | some z =>
        rw [h2] at h1
        have h3 : X[z]? = some x := Option.some.inj h1
        have h4 : (X ++ pl)[z]? = some x := by rw [List.getElem?_append_left (List.getElem?_eq_some_iff.mp h3).1]; exact h3
        exact apD hD h4 hy hxy
    · rw [List.getElem?_append_right (by omega)] at hx
      exact (apart j y hy).2 (by rw [← hxy]; exact hD1.2 _ x hx)
theorem vaA_is {X cx pl : va_W} {sz : Nat} (is : List Nat) (hC : is.map (fun i => X[i]?) = cx.map some) : ∀ q, va_A (cx ++ pl) sz q → va_A (X ++ pl) sz q := by
  rintro q (⟨k, e, h⟩ | h)
  · exact Or.inl ⟨_, e, va_part is hC k _ h⟩
  · exact Or.inr h
theorem vaA_l {a b : va_W} {sz : Nat} : ∀ q, va_A a sz q → va_A (a ++ b) sz q := by
  rintro q (⟨k, e, h⟩ | h)
  · exact Or.inl ⟨k, e, by rw [List.getElem?_append_left (List.getElem?_eq_some_iff.mp h).1]; exact h⟩
  · exact Or.inr h
theorem vaA_s {a b c : va_W} {sz : Nat} : ∀ q, va_A ((a ++ c) ++ b) sz q → va_A (a ++ (b ++ c)) sz q := by
  rintro q (⟨k, e, h⟩ | h)
  · have hm : (q, e) ∈ a ++ (b ++ c) := by
      have := List.mem_of_getElem? h
      simp only [List.mem_append] at this ⊢
      rcases this with (h1 | h1) | h1
      · exact Or.inl h1
      · exact Or.inr (Or.inr h1)
      · exact Or.inr (Or.inl h1)
    obtain ⟨i, hi⟩ := List.mem_iff_getElem?.mp hm
    exact Or.inl ⟨i, e, hi⟩
  · exact Or.inr h
theorem vaA_a {a b c : va_W} {sz : Nat} : ∀ q, va_A ((a ++ b) ++ c) sz q → va_A (a ++ (b ++ c)) sz q := fun q h => by rw [List.append_assoc] at h; exact h
/-- a world as a call finds it -/
noncomputable def wpx (dC : Nat → ClassId) (dI : Nat → Nat → Nat) (tys : List (ClassId × FieldType)) (sz : Nat) (ws : va_W) (U : State) : Prop := U.heap.size = sz ∧ va_P (dC, dI) vwCl ws U.heap ∧ va_K (dC, dI) vwCl tys U ∧ va_D (fun _ => True) ws ∧ stt (va_A ws sz) U U.heap
/-- and as it leaves it -/
noncomputable def wox (dC : Nat → ClassId) (dI : Nat → Nat → Nat) (I : va_W → Prop) (sz : Nat) (ws : va_W) (t : State) : Prop := ∃ ws1 : va_W, I ws1 ∧ va_P (dC, dI) vwCl ws1 t.heap ∧ va_D (va_A ws sz) ws1
theorem wd_Pi {l : Launch} {dC : Nat → ClassId} {dI : Nat → Nat → Nat} {tys : List (ClassId × FieldType)} {y : MethodName} {wsy : List Cond} {rm : Room} {av : List Value} {post : Int32 → Prop} {ws W : va_W} {sz : Nat} {I : va_W → Prop} (hI : I ws) (hM : Met l y wsy rm (va_Pc av (fun U => va_P (dC, dI) vwCl W U.heap ∧ va_K (dC, dI) vwCl tys U)) (vp_Si post) 0 0 (fun _ => False)) (hW : ∀ H, va_P (dC, dI) vwCl ws H → va_P (dC, dI) vwCl W H) :
    Met l y wsy rm (va_Pc av (wpx dC dI tys sz ws)) (va_Qi (fun r (_ : Unit) => post r) (fun _ t => wox dC dI I sz ws t) (va_A ws sz)) 0 0 (va_A ws sz) := by
  refine Met.cq hM ?_ ?_ ?_
  · rintro a U ⟨ha, hsz, hP, hK, hD, hst⟩
    exact ⟨ha, hW _ hP, hK⟩
  · rintro a st o t ⟨ha, hsz, hP, hK, hD, hst⟩ ⟨r, e1, e2, e3⟩
    refine ⟨⟨r, (), e1, e2, ws, hI, by rw [e3]; exact hP, hD.self⟩, by rw [e3]; exact Nat.le_refl _, fun q _ _ => by rw [e3]⟩
  · exact fun q h => h.elim
theorem sbP {D : va_G} {cl : List vw_C} {X cx : va_W} {H : Heap} (h : va_P D cl X H) (is : List Nat) (hs : is.map (fun i => X[i]?) = cx.map some) : va_P D cl cx H := by
  have h1 : va_P D cl (X ++ []) H := by rw [List.append_nil]; exact h
  have h2 := h1.part is hs
  rw [List.append_nil] at h2
  exact h2
theorem fd2P {D : va_G} {cl : List vw_C} {a b t : va_W} {H : Heap} (h : va_P D cl ((a ++ b) ++ t) H) : va_P D cl (a ++ (b ++ t)) H := by
  rw [List.append_assoc] at h; exact h
theorem fd2D {A : Nat → Prop} {a b t : va_W} (h : va_D A ((a ++ b) ++ t)) : va_D A (a ++ (b ++ t)) := by
  rw [List.append_assoc] at h; exact h
theorem fl1 {F g : Nat → Int32} {i : Nat} (h : ∀ j : Nat, j < i → F j = -1) (hi : i < 2 ^ 31) (e : upd F (nI i).toNatClampNeg (-1) = g) : ∀ j : Nat, j < i + 1 → g j = -1 := by
  intro j hj
  rw [nI_clamp hi] at e
  rw [← e]
  unfold upd
  split
  · rfl
  · exact h j (by omega)
theorem dX7_init_0 : decode cX7_init 0 = .ok (.aload_n 0, 1) := dq_42 (by decide +kernel)
theorem dX7_init_1 : decode cX7_init 1 = .ok (.invokespecial 1, 3) := dq_183 (b1 := 0) (b2 := 1) (by decide +kernel) (by decide)
theorem dX7_init_102 : decode cX7_init 102 = .ok (.dup, 1) := dq_89 (by decide +kernel)
theorem dX7_init_103 : decode cX7_init 103 = .ok (.invokespecial 53, 3) := dq_183 (b1 := 0) (b2 := 53) (by decide +kernel) (by decide)
theorem dX7_init_106 : decode cX7_init 106 = .ok (.putfield 54, 3) := dq_181 (b1 := 0) (b2 := 54) (by decide +kernel) (by decide)
theorem dX7_init_109 : decode cX7_init 109 = .ok (.aload_n 0, 1) := dq_42 (by decide +kernel)
theorem dX7_init_110 : decode cX7_init 110 = .ok (.new 58, 3) := dq_187 (b1 := 0) (b2 := 58) (by decide +kernel) (by decide)
theorem dX7_init_113 : decode cX7_init 113 = .ok (.dup, 1) := dq_89 (by decide +kernel)
theorem dX7_init_114 : decode cX7_init 114 = .ok (.invokespecial 60, 3) := dq_183 (b1 := 0) (b2 := 60) (by decide +kernel) (by decide)
theorem dX7_init_117 : decode cX7_init 117 = .ok (.putfield 61, 3) := dq_181 (b1 := 0) (b2 := 61) (by decide +kernel) (by decide)
theorem dX7_init_12 : decode cX7_init 12 = .ok (.putfield 10, 3) := dq_181 (b1 := 0) (b2 := 10) (by decide +kernel) (by decide)
theorem dX7_init_120 : decode cX7_init 120 = .ok (.return_, 1) := dq_177 (by decide +kernel)
theorem dX7_init_15 : decode cX7_init 15 = .ok (.aload_n 0, 1) := dq_42 (by decide +kernel)
theorem dX7_init_16 : decode cX7_init 16 = .ok (.new 16, 3) := dq_187 (b1 := 0) (b2 := 16) (by decide +kernel) (by decide)
theorem dX7_init_19 : decode cX7_init 19 = .ok (.dup, 1) := dq_89 (by decide +kernel)
theorem dX7_init_20 : decode cX7_init 20 = .ok (.invokespecial 18, 3) := dq_183 (b1 := 0) (b2 := 18) (by decide +kernel) (by decide)
theorem dX7_init_23 : decode cX7_init 23 = .ok (.putfield 19, 3) := dq_181 (b1 := 0) (b2 := 19) (by decide +kernel) (by decide)
theorem dX7_init_26 : decode cX7_init 26 = .ok (.aload_n 0, 1) := dq_42 (by decide +kernel)
theorem dX7_init_27 : decode cX7_init 27 = .ok (.new 23, 3) := dq_187 (b1 := 0) (b2 := 23) (by decide +kernel) (by decide)
theorem dX7_init_30 : decode cX7_init 30 = .ok (.dup, 1) := dq_89 (by decide +kernel)
theorem dX7_init_31 : decode cX7_init 31 = .ok (.invokespecial 25, 3) := dq_183 (b1 := 0) (b2 := 25) (by decide +kernel) (by decide)
theorem dX7_init_34 : decode cX7_init 34 = .ok (.putfield 26, 3) := dq_181 (b1 := 0) (b2 := 26) (by decide +kernel) (by decide)
theorem dX7_init_37 : decode cX7_init 37 = .ok (.aload_n 0, 1) := dq_42 (by decide +kernel)
theorem dX7_init_38 : decode cX7_init 38 = .ok (.new 30, 3) := dq_187 (b1 := 0) (b2 := 30) (by decide +kernel) (by decide)
theorem dX7_init_4 : decode cX7_init 4 = .ok (.aload_n 0, 1) := dq_42 (by decide +kernel)
theorem dX7_init_41 : decode cX7_init 41 = .ok (.dup, 1) := dq_89 (by decide +kernel)
theorem dX7_init_42 : decode cX7_init 42 = .ok (.invokespecial 32, 3) := dq_183 (b1 := 0) (b2 := 32) (by decide +kernel) (by decide)
theorem dX7_init_45 : decode cX7_init 45 = .ok (.putfield 33, 3) := dq_181 (b1 := 0) (b2 := 33) (by decide +kernel) (by decide)
theorem dX7_init_48 : decode cX7_init 48 = .ok (.aload_n 0, 1) := dq_42 (by decide +kernel)
theorem dX7_init_49 : decode cX7_init 49 = .ok (.iconst 2, 1) := dq_5 (by decide +kernel)
theorem dX7_init_5 : decode cX7_init 5 = .ok (.new 7, 3) := dq_187 (b1 := 0) (b2 := 7) (by decide +kernel) (by decide)
theorem dX7_init_50 : decode cX7_init 50 = .ok (.anewarray 23, 3) := dq_189 (b1 := 0) (b2 := 23) (by decide +kernel) (by decide)
theorem dX7_init_53 : decode cX7_init 53 = .ok (.dup, 1) := dq_89 (by decide +kernel)
theorem dX7_init_54 : decode cX7_init 54 = .ok (.iconst 0, 1) := dq_3 (by decide +kernel)
theorem dX7_init_55 : decode cX7_init 55 = .ok (.new 23, 3) := dq_187 (b1 := 0) (b2 := 23) (by decide +kernel) (by decide)
theorem dX7_init_58 : decode cX7_init 58 = .ok (.dup, 1) := dq_89 (by decide +kernel)
theorem dX7_init_59 : decode cX7_init 59 = .ok (.invokespecial 25, 3) := dq_183 (b1 := 0) (b2 := 25) (by decide +kernel) (by decide)
theorem dX7_init_62 : decode cX7_init 62 = .ok (.aastore, 1) := dq_83 (by decide +kernel)
theorem dX7_init_63 : decode cX7_init 63 = .ok (.dup, 1) := dq_89 (by decide +kernel)
theorem dX7_init_64 : decode cX7_init 64 = .ok (.iconst 1, 1) := dq_4 (by decide +kernel)
theorem dX7_init_65 : decode cX7_init 65 = .ok (.new 23, 3) := dq_187 (b1 := 0) (b2 := 23) (by decide +kernel) (by decide)
theorem dX7_init_68 : decode cX7_init 68 = .ok (.dup, 1) := dq_89 (by decide +kernel)
theorem dX7_init_69 : decode cX7_init 69 = .ok (.invokespecial 25, 3) := dq_183 (b1 := 0) (b2 := 25) (by decide +kernel) (by decide)
theorem dX7_init_72 : decode cX7_init 72 = .ok (.aastore, 1) := dq_83 (by decide +kernel)
theorem dX7_init_73 : decode cX7_init 73 = .ok (.putfield 37, 3) := dq_181 (b1 := 0) (b2 := 37) (by decide +kernel) (by decide)
theorem dX7_init_76 : decode cX7_init 76 = .ok (.aload_n 0, 1) := dq_42 (by decide +kernel)
theorem dX7_init_77 : decode cX7_init 77 = .ok (.new 23, 3) := dq_187 (b1 := 0) (b2 := 23) (by decide +kernel) (by decide)
theorem dX7_init_8 : decode cX7_init 8 = .ok (.dup, 1) := dq_89 (by decide +kernel)
theorem dX7_init_80 : decode cX7_init 80 = .ok (.dup, 1) := dq_89 (by decide +kernel)
theorem dX7_init_81 : decode cX7_init 81 = .ok (.invokespecial 25, 3) := dq_183 (b1 := 0) (b2 := 25) (by decide +kernel) (by decide)
theorem dX7_init_84 : decode cX7_init 84 = .ok (.putfield 41, 3) := dq_181 (b1 := 0) (b2 := 41) (by decide +kernel) (by decide)
theorem dX7_init_87 : decode cX7_init 87 = .ok (.aload_n 0, 1) := dq_42 (by decide +kernel)
theorem dX7_init_88 : decode cX7_init 88 = .ok (.new 44, 3) := dq_187 (b1 := 0) (b2 := 44) (by decide +kernel) (by decide)
theorem dX7_init_9 : decode cX7_init 9 = .ok (.invokespecial 9, 3) := dq_183 (b1 := 0) (b2 := 9) (by decide +kernel) (by decide)
theorem dX7_init_91 : decode cX7_init 91 = .ok (.dup, 1) := dq_89 (by decide +kernel)
theorem dX7_init_92 : decode cX7_init 92 = .ok (.invokespecial 46, 3) := dq_183 (b1 := 0) (b2 := 46) (by decide +kernel) (by decide)
theorem dX7_init_95 : decode cX7_init 95 = .ok (.putfield 47, 3) := dq_181 (b1 := 0) (b2 := 47) (by decide +kernel) (by decide)
theorem dX7_init_98 : decode cX7_init 98 = .ok (.aload_n 0, 1) := dq_42 (by decide +kernel)
theorem dX7_init_99 : decode cX7_init 99 = .ok (.new 51, 3) := dq_187 (b1 := 0) (b2 := 51) (by decide +kernel) (by decide)
theorem dX8_init_0 : decode cX8_init 0 = .ok (.aload_n 0, 1) := dq_42 (by decide +kernel)
theorem dX8_init_1 : decode cX8_init 1 = .ok (.invokespecial 1, 3) := dq_183 (b1 := 0) (b2 := 1) (by decide +kernel) (by decide)
theorem dX8_init_101 : decode cX8_init 101 = .ok (.aload_n 0, 1) := dq_42 (by decide +kernel)
theorem dX8_init_102 : decode cX8_init 102 = .ok (.bipush 16, 2) := dq_16 (b1 := 16) (by decide +kernel) (by decide)
theorem dX8_init_104 : decode cX8_init 104 = .ok (.newarray .int, 2) := by decide +kernel
theorem dX8_init_106 : decode cX8_init 106 = .ok (.putfield 47, 3) := dq_181 (b1 := 0) (b2 := 47) (by decide +kernel) (by decide)
theorem dX8_init_109 : decode cX8_init 109 = .ok (.iconst 0, 1) := dq_3 (by decide +kernel)
theorem dX8_init_110 : decode cX8_init 110 = .ok (.istore_n 1, 1) := dq_60 (by decide +kernel)
theorem dX8_init_111 : decode cX8_init 111 = .ok (.iload_n 1, 1) := dq_27 (by decide +kernel)
theorem dX8_init_112 : decode cX8_init 112 = .ok (.bipush 8, 2) := dq_16 (b1 := 8) (by decide +kernel) (by decide)
theorem dX8_init_114 : decode cX8_init 114 = .ok (.if_icmp .ge 16, 3) := dq_162 (b1 := 0) (b2 := 16) (by decide +kernel) (by decide)
theorem dX8_init_117 : decode cX8_init 117 = .ok (.aload_n 0, 1) := dq_42 (by decide +kernel)
theorem dX8_init_118 : decode cX8_init 118 = .ok (.getfield 13, 3) := dq_180 (b1 := 0) (b2 := 13) (by decide +kernel) (by decide)
theorem dX8_init_12 : decode cX8_init 12 = .ok (.aload_n 0, 1) := dq_42 (by decide +kernel)
theorem dX8_init_121 : decode cX8_init 121 = .ok (.iload_n 1, 1) := dq_27 (by decide +kernel)
theorem dX8_init_122 : decode cX8_init 122 = .ok (.iconst (-1), 1) := dq_2 (by decide +kernel)
theorem dX8_init_123 : decode cX8_init 123 = .ok (.iastore, 1) := dq_79 (by decide +kernel)
theorem dX8_init_124 : decode cX8_init 124 = .ok (.iinc 1 1, 3) := dq_132 (b1 := 1) (b2 := 1) (by decide +kernel) (by decide) (by decide)
theorem dX8_init_127 : decode cX8_init 127 = .ok (.goto (-16), 3) := dq_167 (b1 := 255) (b2 := 240) (by decide +kernel) (by decide)
theorem dX8_init_13 : decode cX8_init 13 = .ok (.bipush 8, 2) := dq_16 (b1 := 8) (by decide +kernel) (by decide)
theorem dX8_init_130 : decode cX8_init 130 = .ok (.return_, 1) := dq_177 (by decide +kernel)
theorem dX8_init_15 : decode cX8_init 15 = .ok (.newarray .int, 2) := by decide +kernel
theorem dX8_init_17 : decode cX8_init 17 = .ok (.putfield 13, 3) := dq_181 (b1 := 0) (b2 := 13) (by decide +kernel) (by decide)
theorem dX8_init_20 : decode cX8_init 20 = .ok (.aload_n 0, 1) := dq_42 (by decide +kernel)
theorem dX8_init_21 : decode cX8_init 21 = .ok (.sipush 320, 3) := dq_17 (b1 := 1) (b2 := 64) (by decide +kernel) (by decide)
theorem dX8_init_24 : decode cX8_init 24 = .ok (.newarray .int, 2) := by decide +kernel
theorem dX8_init_26 : decode cX8_init 26 = .ok (.putfield 16, 3) := dq_181 (b1 := 0) (b2 := 16) (by decide +kernel) (by decide)
theorem dX8_init_29 : decode cX8_init 29 = .ok (.aload_n 0, 1) := dq_42 (by decide +kernel)
theorem dX8_init_30 : decode cX8_init 30 = .ok (.bipush 38, 2) := dq_16 (b1 := 38) (by decide +kernel) (by decide)
theorem dX8_init_32 : decode cX8_init 32 = .ok (.newarray .int, 2) := by decide +kernel
theorem dX8_init_34 : decode cX8_init 34 = .ok (.putfield 19, 3) := dq_181 (b1 := 0) (b2 := 19) (by decide +kernel) (by decide)
theorem dX8_init_37 : decode cX8_init 37 = .ok (.aload_n 0, 1) := dq_42 (by decide +kernel)
theorem dX8_init_38 : decode cX8_init 38 = .ok (.bipush 40, 2) := dq_16 (b1 := 40) (by decide +kernel) (by decide)
theorem dX8_init_4 : decode cX8_init 4 = .ok (.aload_n 0, 1) := dq_42 (by decide +kernel)
theorem dX8_init_40 : decode cX8_init 40 = .ok (.newarray .int, 2) := by decide +kernel
theorem dX8_init_42 : decode cX8_init 42 = .ok (.putfield 22, 3) := dq_181 (b1 := 0) (b2 := 22) (by decide +kernel) (by decide)
theorem dX8_init_45 : decode cX8_init 45 = .ok (.aload_n 0, 1) := dq_42 (by decide +kernel)
theorem dX8_init_46 : decode cX8_init 46 = .ok (.bipush 120, 2) := dq_16 (b1 := 120) (by decide +kernel) (by decide)
theorem dX8_init_48 : decode cX8_init 48 = .ok (.newarray .int, 2) := by decide +kernel
theorem dX8_init_5 : decode cX8_init 5 = .ok (.bipush 8, 2) := dq_16 (b1 := 8) (by decide +kernel) (by decide)
theorem dX8_init_50 : decode cX8_init 50 = .ok (.putfield 25, 3) := dq_181 (b1 := 0) (b2 := 25) (by decide +kernel) (by decide)
theorem dX8_init_53 : decode cX8_init 53 = .ok (.aload_n 0, 1) := dq_42 (by decide +kernel)
theorem dX8_init_54 : decode cX8_init 54 = .ok (.bipush 38, 2) := dq_16 (b1 := 38) (by decide +kernel) (by decide)
theorem dX8_init_56 : decode cX8_init 56 = .ok (.newarray .int, 2) := by decide +kernel
theorem dX8_init_58 : decode cX8_init 58 = .ok (.putfield 28, 3) := dq_181 (b1 := 0) (b2 := 28) (by decide +kernel) (by decide)
theorem dX8_init_61 : decode cX8_init 61 = .ok (.aload_n 0, 1) := dq_42 (by decide +kernel)
theorem dX8_init_62 : decode cX8_init 62 = .ok (.sipush 912, 3) := dq_17 (b1 := 3) (b2 := 144) (by decide +kernel) (by decide)
theorem dX8_init_65 : decode cX8_init 65 = .ok (.newarray .int, 2) := by decide +kernel
theorem dX8_init_67 : decode cX8_init 67 = .ok (.putfield 31, 3) := dq_181 (b1 := 0) (b2 := 31) (by decide +kernel) (by decide)
theorem dX8_init_7 : decode cX8_init 7 = .ok (.newarray .int, 2) := by decide +kernel
theorem dX8_init_70 : decode cX8_init 70 = .ok (.aload_n 0, 1) := dq_42 (by decide +kernel)
theorem dX8_init_71 : decode cX8_init 71 = .ok (.bipush 38, 2) := dq_16 (b1 := 38) (by decide +kernel) (by decide)
theorem dX8_init_73 : decode cX8_init 73 = .ok (.newarray .int, 2) := by decide +kernel
theorem dX8_init_75 : decode cX8_init 75 = .ok (.putfield 34, 3) := dq_181 (b1 := 0) (b2 := 34) (by decide +kernel) (by decide)
theorem dX8_init_78 : decode cX8_init 78 = .ok (.aload_n 0, 1) := dq_42 (by decide +kernel)
theorem dX8_init_79 : decode cX8_init 79 = .ok (.bipush 16, 2) := dq_16 (b1 := 16) (by decide +kernel) (by decide)
theorem dX8_init_81 : decode cX8_init 81 = .ok (.newarray .int, 2) := by decide +kernel
theorem dX8_init_83 : decode cX8_init 83 = .ok (.putfield 37, 3) := dq_181 (b1 := 0) (b2 := 37) (by decide +kernel) (by decide)
theorem dX8_init_86 : decode cX8_init 86 = .ok (.aload_n 0, 1) := dq_42 (by decide +kernel)
theorem dX8_init_87 : decode cX8_init 87 = .ok (.iconst 2, 1) := dq_5 (by decide +kernel)
theorem dX8_init_88 : decode cX8_init 88 = .ok (.newarray .boolean, 2) := by decide +kernel
theorem dX8_init_9 : decode cX8_init 9 = .ok (.putfield 7, 3) := dq_181 (b1 := 0) (b2 := 7) (by decide +kernel) (by decide)
theorem dX8_init_90 : decode cX8_init 90 = .ok (.putfield 40, 3) := dq_181 (b1 := 0) (b2 := 40) (by decide +kernel) (by decide)
theorem dX8_init_93 : decode cX8_init 93 = .ok (.aload_n 0, 1) := dq_42 (by decide +kernel)
theorem dX8_init_94 : decode cX8_init 94 = .ok (.bipush 76, 2) := dq_16 (b1 := 76) (by decide +kernel) (by decide)
theorem dX8_init_96 : decode cX8_init 96 = .ok (.newarray .int, 2) := by decide +kernel
theorem dX8_init_98 : decode cX8_init 98 = .ok (.putfield 44, 3) := dq_181 (b1 := 0) (b2 := 44) (by decide +kernel) (by decide)
theorem mb_X7_init_wsX7_init_r3 {w : Cond} (h : w ∈ wsX7_init_r3) : w ∈ wsX7_init := by unfold wsX7_init; exact List.mem_cons_of_mem _ (List.mem_append_left _ (List.mem_append_left _ (List.mem_append_left _ (List.mem_append_left _ (List.mem_append_left _ (List.mem_append_left _ (List.mem_append_left _ (List.mem_append_left _ (List.mem_append_right _ (List.mem_append_right _ (List.mem_append_left _ (h))))))))))))
theorem mx_X7_init_63 : Cond.code yX0_init cX0_init 2 none ∈ wsX7_init := mb_X7_init_wsX7_init_r3 (List.mem_of_getElem? (i := 14) rfl)
theorem mx_X7_init_64 : Cond.methodLink RX0 1 objectInit ∈ wsX7_init := mb_X7_init_wsX7_init_r3 (List.mem_of_getElem? (i := 15) rfl)
theorem mb_X7_init_wsX7_init_r1 {w : Cond} (h : w ∈ wsX7_init_r1) : w ∈ wsX7_init := by unfold wsX7_init; exact List.mem_cons_of_mem _ (List.mem_append_left _ (List.mem_append_left _ (List.mem_append_left _ (List.mem_append_left _ (List.mem_append_left _ (List.mem_append_left _ (List.mem_append_left _ (List.mem_append_left _ (List.mem_append_left _ (h))))))))))
theorem mx_X7_init_2 : Cond.instanceMethod objectInit ∈ wsX7_init := mb_X7_init_wsX7_init_r1 (List.mem_of_getElem? (i := 1) rfl)
theorem mx_X7_init_3 : Cond.code objectInit ⟨#[0xb1]⟩ 1 none ∈ wsX7_init := mb_X7_init_wsX7_init_r1 (List.mem_of_getElem? (i := 2) rfl)
theorem mx_X7_init_65 : Cond.classLink RX0 9 RX3 ∈ wsX7_init := mb_X7_init_wsX7_init_r3 (List.mem_of_getElem? (i := 16) rfl)
theorem mx_X7_init_66 : Cond.fieldLink RX0 11 "MillTalk$Acts" "before" "[LMillTalk$Level;" ∈ wsX7_init := mb_X7_init_wsX7_init_r3 (List.mem_of_getElem? (i := 17) rfl)
theorem mx_X7_init_13 : Cond.instantiable RX3 13 ∈ wsX7_init := mb_X7_init_wsX7_init_r1 (List.mem_of_getElem? (i := 12) rfl)
theorem mx_X7_init_14 : Cond.initialized RX3 ∈ wsX7_init := mb_X7_init_wsX7_init_r1 (List.mem_of_getElem? (i := 13) rfl)
theorem mx_X7_init_53 : Cond.instanceMethod yX3_init ∈ wsX7_init := mb_X7_init_wsX7_init_r3 (List.mem_of_getElem? (i := 4) rfl)
theorem mx_X7_init_54 : Cond.code yX3_init cX3_init 1 none ∈ wsX7_init := mb_X7_init_wsX7_init_r3 (List.mem_of_getElem? (i := 5) rfl)
theorem mx_X7_init_55 : Cond.methodLink RX3 3 objectInit ∈ wsX7_init := mb_X7_init_wsX7_init_r3 (List.mem_of_getElem? (i := 6) rfl)
theorem mb_X7_init_wsX7_init_r2 {w : Cond} (h : w ∈ wsX7_init_r2) : w ∈ wsX7_init := by unfold wsX7_init; exact List.mem_cons_of_mem _ (List.mem_append_left _ (List.mem_append_left _ (List.mem_append_left _ (List.mem_append_left _ (List.mem_append_left _ (List.mem_append_left _ (List.mem_append_left _ (List.mem_append_left _ (List.mem_append_right _ (List.mem_append_left _ (h)))))))))))
theorem mx_X7_init_39 : Cond.arrayClass .int ∈ wsX7_init := mb_X7_init_wsX7_init_r2 (List.mem_of_getElem? (i := 14) rfl)
theorem mx_X7_init_56 : Cond.fieldLink RX3 9 "MillTalk$Level" "winds" "[I" ∈ wsX7_init := mb_X7_init_wsX7_init_r3 (List.mem_of_getElem? (i := 7) rfl)
theorem mx_X7_init_57 : Cond.fieldLink RX3 15 "MillTalk$Level" "kinds" "[I" ∈ wsX7_init := mb_X7_init_wsX7_init_r3 (List.mem_of_getElem? (i := 8) rfl)
theorem mx_X7_init_58 : Cond.fieldLink RX3 18 "MillTalk$Level" "places" "[I" ∈ wsX7_init := mb_X7_init_wsX7_init_r3 (List.mem_of_getElem? (i := 9) rfl)
theorem mx_X7_init_59 : Cond.fieldLink RX3 21 "MillTalk$Level" "louds" "[I" ∈ wsX7_init := mb_X7_init_wsX7_init_r3 (List.mem_of_getElem? (i := 10) rfl)
theorem mx_X7_init_60 : Cond.fieldLink RX3 24 "MillTalk$Level" "hows" "[I" ∈ wsX7_init := mb_X7_init_wsX7_init_r3 (List.mem_of_getElem? (i := 11) rfl)
theorem mb_X7_init_wsX00 {w : Cond} (h : w ∈ wsX00) : w ∈ wsX7_init := by unfold wsX7_init; exact List.mem_cons_of_mem _ (List.mem_append_left _ (List.mem_append_left _ (List.mem_append_left _ (List.mem_append_right _ (h)))))
theorem mb_X7_init_wsX30 {w : Cond} (h : w ∈ wsX30) : w ∈ wsX7_init := by unfold wsX7_init; exact List.mem_cons_of_mem _ (List.mem_append_left _ (List.mem_append_left _ (List.mem_append_left _ (List.mem_append_left _ (List.mem_append_right _ (h))))))
theorem ggX7_init_X0_init : GoodIn wsX7_init wsX0_init := goodIn_sub (by unfold wsX0_init; exact List.forall_mem_cons.mpr ⟨mx_X7_init_63, List.forall_mem_append.mpr ⟨List.forall_mem_append.mpr ⟨List.forall_mem_cons.mpr ⟨mx_X7_init_64, List.forall_mem_cons.mpr ⟨mx_X7_init_2, List.forall_mem_cons.mpr ⟨mx_X7_init_3, List.forall_mem_cons.mpr ⟨mx_X7_init_65, List.forall_mem_cons.mpr ⟨mx_X7_init_66, List.forall_mem_cons.mpr ⟨mx_X7_init_13, List.forall_mem_cons.mpr ⟨mx_X7_init_14, List.forall_mem_cons.mpr ⟨mx_X7_init_53, List.forall_mem_cons.mpr ⟨mx_X7_init_54, List.forall_mem_cons.mpr ⟨mx_X7_init_55, List.forall_mem_cons.mpr ⟨mx_X7_init_39, List.forall_mem_cons.mpr ⟨mx_X7_init_56, List.forall_mem_cons.mpr ⟨mx_X7_init_57, List.forall_mem_cons.mpr ⟨mx_X7_init_58, List.forall_mem_cons.mpr ⟨mx_X7_init_59, List.forall_mem_cons.mpr ⟨mx_X7_init_60, fun _ h_ => absurd h_ List.not_mem_nil⟩⟩⟩⟩⟩⟩⟩⟩⟩⟩⟩⟩⟩⟩⟩⟩, (fun _ h_ => mb_X7_init_wsX00 h_)⟩, (fun _ h_ => mb_X7_init_wsX30 h_)⟩⟩) (by decide +kernel)
set_option maxRecDepth 20000 in
theorem gX7_init_X0_init : GoodIn wsX7_init (wsX0_init) := ggX7_init_X0_init
theorem mb_X7_init_wsX7_init_r4 {w : Cond} (h : w ∈ wsX7_init_r4) : w ∈ wsX7_init := by unfold wsX7_init; exact List.mem_cons_of_mem _ (List.mem_append_left _ (List.mem_append_left _ (List.mem_append_left _ (List.mem_append_left _ (List.mem_append_left _ (List.mem_append_left _ (List.mem_append_left _ (List.mem_append_left _ (List.mem_append_right _ (List.mem_append_right _ (List.mem_append_right _ (h))))))))))))
theorem mx_X7_init_80 : Cond.code yX1_init cX1_init 1 none ∈ wsX7_init := mb_X7_init_wsX7_init_r4 (List.mem_of_getElem? (i := 7) rfl)
theorem mx_X7_init_81 : Cond.methodLink RX1 3 objectInit ∈ wsX7_init := mb_X7_init_wsX7_init_r4 (List.mem_of_getElem? (i := 8) rfl)
theorem mx_X7_init_82 : Cond.fieldLink RX1 11 "MillTalk$Asks" "trace" "[I" ∈ wsX7_init := mb_X7_init_wsX7_init_r4 (List.mem_of_getElem? (i := 9) rfl)
theorem mb_X7_init_wsX10 {w : Cond} (h : w ∈ wsX10) : w ∈ wsX7_init := by unfold wsX7_init; exact List.mem_cons_of_mem _ (List.mem_append_right _ (h))
theorem ggX7_init_X1_init : GoodIn wsX7_init wsX1_init := goodIn_sub (by unfold wsX1_init; exact List.forall_mem_cons.mpr ⟨mx_X7_init_80, List.forall_mem_append.mpr ⟨List.forall_mem_cons.mpr ⟨mx_X7_init_81, List.forall_mem_cons.mpr ⟨mx_X7_init_2, List.forall_mem_cons.mpr ⟨mx_X7_init_3, List.forall_mem_cons.mpr ⟨mx_X7_init_39, List.forall_mem_cons.mpr ⟨mx_X7_init_82, fun _ h_ => absurd h_ List.not_mem_nil⟩⟩⟩⟩⟩, (fun _ h_ => mb_X7_init_wsX10 h_)⟩⟩) (by decide +kernel)
set_option maxRecDepth 20000 in
theorem gX7_init_X1_init_n60 : GoodIn wsX7_init (wsX1_init) := ggX7_init_X1_init
theorem mx_X7_init_75 : Cond.code yX2_init cX2_init 2 none ∈ wsX7_init := mb_X7_init_wsX7_init_r4 (List.mem_of_getElem? (i := 2) rfl)
theorem mx_X7_init_76 : Cond.methodLink RX2 3 objectInit ∈ wsX7_init := mb_X7_init_wsX7_init_r4 (List.mem_of_getElem? (i := 3) rfl)
theorem mx_X7_init_77 : Cond.classLink RX2 11 RX3 ∈ wsX7_init := mb_X7_init_wsX7_init_r4 (List.mem_of_getElem? (i := 4) rfl)
theorem mx_X7_init_78 : Cond.fieldLink RX2 13 "MillTalk$CapSearch" "behind" "[LMillTalk$Level;" ∈ wsX7_init := mb_X7_init_wsX7_init_r4 (List.mem_of_getElem? (i := 5) rfl)
theorem mb_X7_init_wsX20 {w : Cond} (h : w ∈ wsX20) : w ∈ wsX7_init := by unfold wsX7_init; exact List.mem_cons_of_mem _ (List.mem_append_left _ (List.mem_append_right _ (h)))
theorem ggX7_init_X2_init : GoodIn wsX7_init wsX2_init := goodIn_sub (by unfold wsX2_init; exact List.forall_mem_cons.mpr ⟨mx_X7_init_75, List.forall_mem_append.mpr ⟨List.forall_mem_append.mpr ⟨List.forall_mem_cons.mpr ⟨mx_X7_init_76, List.forall_mem_cons.mpr ⟨mx_X7_init_2, List.forall_mem_cons.mpr ⟨mx_X7_init_3, List.forall_mem_cons.mpr ⟨mx_X7_init_77, List.forall_mem_cons.mpr ⟨mx_X7_init_78, List.forall_mem_cons.mpr ⟨mx_X7_init_13, List.forall_mem_cons.mpr ⟨mx_X7_init_14, List.forall_mem_cons.mpr ⟨mx_X7_init_53, List.forall_mem_cons.mpr ⟨mx_X7_init_54, List.forall_mem_cons.mpr ⟨mx_X7_init_55, List.forall_mem_cons.mpr ⟨mx_X7_init_39, List.forall_mem_cons.mpr ⟨mx_X7_init_56, List.forall_mem_cons.mpr ⟨mx_X7_init_57, List.forall_mem_cons.mpr ⟨mx_X7_init_58, List.forall_mem_cons.mpr ⟨mx_X7_init_59, List.forall_mem_cons.mpr ⟨mx_X7_init_60, fun _ h_ => absurd h_ List.not_mem_nil⟩⟩⟩⟩⟩⟩⟩⟩⟩⟩⟩⟩⟩⟩⟩⟩, (fun _ h_ => mb_X7_init_wsX20 h_)⟩, (fun _ h_ => mb_X7_init_wsX30 h_)⟩⟩) (by decide +kernel)
set_option maxRecDepth 20000 in
theorem gX7_init_X2_init : GoodIn wsX7_init (wsX2_init) := ggX7_init_X2_init
theorem ggX7_init_X3_init : GoodIn wsX7_init wsX3_init := goodIn_sub (by unfold wsX3_init; exact List.forall_mem_cons.mpr ⟨mx_X7_init_54, List.forall_mem_append.mpr ⟨List.forall_mem_cons.mpr ⟨mx_X7_init_55, List.forall_mem_cons.mpr ⟨mx_X7_init_2, List.forall_mem_cons.mpr ⟨mx_X7_init_3, List.forall_mem_cons.mpr ⟨mx_X7_init_39, List.forall_mem_cons.mpr ⟨mx_X7_init_56, List.forall_mem_cons.mpr ⟨mx_X7_init_57, List.forall_mem_cons.mpr ⟨mx_X7_init_58, List.forall_mem_cons.mpr ⟨mx_X7_init_59, List.forall_mem_cons.mpr ⟨mx_X7_init_60, fun _ h_ => absurd h_ List.not_mem_nil⟩⟩⟩⟩⟩⟩⟩⟩⟩, (fun _ h_ => mb_X7_init_wsX30 h_)⟩⟩) (by decide +kernel)
set_option maxRecDepth 20000 in
theorem gX7_init_X3_init_n25 : GoodIn wsX7_init (wsX3_init) := ggX7_init_X3_init
theorem mx_X7_init_68 : Cond.code yX4_init cX4_init 1 none ∈ wsX7_init := mb_X7_init_wsX7_init_r3 (List.mem_of_getElem? (i := 19) rfl)
theorem mx_X7_init_69 : Cond.methodLink RX4 1 objectInit ∈ wsX7_init := mb_X7_init_wsX7_init_r3 (List.mem_of_getElem? (i := 20) rfl)
theorem mx_X7_init_70 : Cond.classLink RX4 7 RX3 ∈ wsX7_init := mb_X7_init_wsX7_init_r3 (List.mem_of_getElem? (i := 21) rfl)
theorem mx_X7_init_71 : Cond.fieldLink RX4 10 "MillTalk$Play" "board" "LMillTalk$Level;" ∈ wsX7_init := mb_X7_init_wsX7_init_r3 (List.mem_of_getElem? (i := 22) rfl)
theorem mx_X7_init_72 : Cond.fieldLink RX4 16 "MillTalk$Play" "outcome" "LMillTalk$Level;" ∈ wsX7_init := mb_X7_init_wsX7_init_r3 (List.mem_of_getElem? (i := 23) rfl)
theorem mb_X7_init_wsX40 {w : Cond} (h : w ∈ wsX40) : w ∈ wsX7_init := by unfold wsX7_init; exact List.mem_cons_of_mem _ (List.mem_append_left _ (List.mem_append_left _ (List.mem_append_right _ (h))))
theorem ggX7_init_X4_init : GoodIn wsX7_init wsX4_init := goodIn_sub (by unfold wsX4_init; exact List.forall_mem_cons.mpr ⟨mx_X7_init_68, List.forall_mem_append.mpr ⟨List.forall_mem_append.mpr ⟨List.forall_mem_cons.mpr ⟨mx_X7_init_69, List.forall_mem_cons.mpr ⟨mx_X7_init_2, List.forall_mem_cons.mpr ⟨mx_X7_init_3, List.forall_mem_cons.mpr ⟨mx_X7_init_70, List.forall_mem_cons.mpr ⟨mx_X7_init_13, List.forall_mem_cons.mpr ⟨mx_X7_init_14, List.forall_mem_cons.mpr ⟨mx_X7_init_71, List.forall_mem_cons.mpr ⟨mx_X7_init_72, List.forall_mem_cons.mpr ⟨mx_X7_init_53, List.forall_mem_cons.mpr ⟨mx_X7_init_54, List.forall_mem_cons.mpr ⟨mx_X7_init_55, List.forall_mem_cons.mpr ⟨mx_X7_init_39, List.forall_mem_cons.mpr ⟨mx_X7_init_56, List.forall_mem_cons.mpr ⟨mx_X7_init_57, List.forall_mem_cons.mpr ⟨mx_X7_init_58, List.forall_mem_cons.mpr ⟨mx_X7_init_59, List.forall_mem_cons.mpr ⟨mx_X7_init_60, fun _ h_ => absurd h_ List.not_mem_nil⟩⟩⟩⟩⟩⟩⟩⟩⟩⟩⟩⟩⟩⟩⟩⟩⟩, (fun _ h_ => mb_X7_init_wsX30 h_)⟩, (fun _ h_ => mb_X7_init_wsX40 h_)⟩⟩) (by decide +kernel)
set_option maxRecDepth 20000 in
theorem gX7_init_X4_init_n46 : GoodIn wsX7_init (wsX4_init) := ggX7_init_X4_init
theorem mx_X7_init_36 : Cond.code yX5_init cX5_init 1 none ∈ wsX7_init := mb_X7_init_wsX7_init_r2 (List.mem_of_getElem? (i := 11) rfl)
theorem mx_X7_init_37 : Cond.methodLink RX5 3 objectInit ∈ wsX7_init := mb_X7_init_wsX7_init_r2 (List.mem_of_getElem? (i := 12) rfl)
theorem mx_X7_init_38 : Cond.classLink RX5 11 "[[I" ∈ wsX7_init := mb_X7_init_wsX7_init_r2 (List.mem_of_getElem? (i := 13) rfl)
theorem mx_X7_init_40 : Cond.fieldLink RX5 13 "MillTalk$Rows" "items" "[[I" ∈ wsX7_init := mb_X7_init_wsX7_init_r2 (List.mem_of_getElem? (i := 15) rfl)
theorem mx_X7_init_41 : Cond.fieldLink RX5 16 "MillTalk$Rows" "lanes" "[I" ∈ wsX7_init := mb_X7_init_wsX7_init_r2 (List.mem_of_getElem? (i := 16) rfl)
theorem mx_X7_init_42 : Cond.fieldLink RX5 20 "MillTalk$Rows" "lengths" "[I" ∈ wsX7_init := mb_X7_init_wsX7_init_r2 (List.mem_of_getElem? (i := 17) rfl)
theorem mx_X7_init_43 : Cond.methodLink RX5 23 yJ7_fill_53178 ∈ wsX7_init := mb_X7_init_wsX7_init_r2 (List.mem_of_getElem? (i := 18) rfl)
theorem mx_X7_init_44 : Cond.static yJ7_fill_53178 ∈ wsX7_init := mb_X7_init_wsX7_init_r2 (List.mem_of_getElem? (i := 19) rfl)
theorem mx_X7_init_45 : Cond.initialized RJ7 ∈ wsX7_init := mb_X7_init_wsX7_init_r2 (List.mem_of_getElem? (i := 20) rfl)
theorem mx_X7_init_46 : Cond.code yJ7_fill_53178 cJ7_fill_53178 4 none ∈ wsX7_init := mb_X7_init_wsX7_init_r2 (List.mem_of_getElem? (i := 21) rfl)
theorem mb_X7_init_wsX50 {w : Cond} (h : w ∈ wsX50) : w ∈ wsX7_init := by unfold wsX7_init; exact List.mem_cons_of_mem _ (List.mem_append_left _ (List.mem_append_left _ (List.mem_append_left _ (List.mem_append_left _ (List.mem_append_left _ (List.mem_append_left _ (List.mem_append_left _ (List.mem_append_right _ (h)))))))))
theorem ggX7_init_X5_init : GoodIn wsX7_init wsX5_init := goodIn_sub (by unfold wsX5_init; exact List.forall_mem_cons.mpr ⟨mx_X7_init_36, List.forall_mem_append.mpr ⟨List.forall_mem_cons.mpr ⟨mx_X7_init_37, List.forall_mem_cons.mpr ⟨mx_X7_init_2, List.forall_mem_cons.mpr ⟨mx_X7_init_3, List.forall_mem_cons.mpr ⟨mx_X7_init_38, List.forall_mem_cons.mpr ⟨mx_X7_init_39, List.forall_mem_cons.mpr ⟨mx_X7_init_40, List.forall_mem_cons.mpr ⟨mx_X7_init_41, List.forall_mem_cons.mpr ⟨mx_X7_init_42, List.forall_mem_cons.mpr ⟨mx_X7_init_43, List.forall_mem_cons.mpr ⟨mx_X7_init_44, List.forall_mem_cons.mpr ⟨mx_X7_init_45, List.forall_mem_cons.mpr ⟨mx_X7_init_46, fun _ h_ => absurd h_ List.not_mem_nil⟩⟩⟩⟩⟩⟩⟩⟩⟩⟩⟩⟩, (fun _ h_ => mb_X7_init_wsX50 h_)⟩⟩) (by decide +kernel)
set_option maxRecDepth 20000 in
theorem gX7_init_X5_init : GoodIn wsX7_init (wsX5_init) := ggX7_init_X5_init
theorem mx_X7_init_48 : Cond.code yX6_init cX6_init 1 none ∈ wsX7_init := mb_X7_init_wsX7_init_r2 (List.mem_of_getElem? (i := 23) rfl)
theorem mx_X7_init_49 : Cond.methodLink RX6 3 objectInit ∈ wsX7_init := mb_X7_init_wsX7_init_r3 (List.mem_of_getElem? (i := 0) rfl)
theorem mx_X7_init_50 : Cond.fieldLink RX6 11 "MillTalk$Tape" "bytes" "[I" ∈ wsX7_init := mb_X7_init_wsX7_init_r3 (List.mem_of_getElem? (i := 1) rfl)
theorem mx_X7_init_51 : Cond.classLink RX6 15 RX3 ∈ wsX7_init := mb_X7_init_wsX7_init_r3 (List.mem_of_getElem? (i := 2) rfl)
theorem mx_X7_init_52 : Cond.fieldLink RX6 18 "MillTalk$Tape" "told" "LMillTalk$Level;" ∈ wsX7_init := mb_X7_init_wsX7_init_r3 (List.mem_of_getElem? (i := 3) rfl)
theorem mb_X7_init_wsX60 {w : Cond} (h : w ∈ wsX60) : w ∈ wsX7_init := by unfold wsX7_init; exact List.mem_cons_of_mem _ (List.mem_append_left _ (List.mem_append_left _ (List.mem_append_left _ (List.mem_append_left _ (List.mem_append_left _ (List.mem_append_right _ (h)))))))
theorem ggX7_init_X6_init : GoodIn wsX7_init wsX6_init := goodIn_sub (by unfold wsX6_init; exact List.forall_mem_cons.mpr ⟨mx_X7_init_48, List.forall_mem_append.mpr ⟨List.forall_mem_append.mpr ⟨List.forall_mem_cons.mpr ⟨mx_X7_init_49, List.forall_mem_cons.mpr ⟨mx_X7_init_2, List.forall_mem_cons.mpr ⟨mx_X7_init_3, List.forall_mem_cons.mpr ⟨mx_X7_init_39, List.forall_mem_cons.mpr ⟨mx_X7_init_50, List.forall_mem_cons.mpr ⟨mx_X7_init_51, List.forall_mem_cons.mpr ⟨mx_X7_init_13, List.forall_mem_cons.mpr ⟨mx_X7_init_14, List.forall_mem_cons.mpr ⟨mx_X7_init_52, List.forall_mem_cons.mpr ⟨mx_X7_init_53, List.forall_mem_cons.mpr ⟨mx_X7_init_54, List.forall_mem_cons.mpr ⟨mx_X7_init_55, List.forall_mem_cons.mpr ⟨mx_X7_init_56, List.forall_mem_cons.mpr ⟨mx_X7_init_57, List.forall_mem_cons.mpr ⟨mx_X7_init_58, List.forall_mem_cons.mpr ⟨mx_X7_init_59, List.forall_mem_cons.mpr ⟨mx_X7_init_60, fun _ h_ => absurd h_ List.not_mem_nil⟩⟩⟩⟩⟩⟩⟩⟩⟩⟩⟩⟩⟩⟩⟩⟩⟩, (fun _ h_ => mb_X7_init_wsX60 h_)⟩, (fun _ h_ => mb_X7_init_wsX30 h_)⟩⟩) (by decide +kernel)
set_option maxRecDepth 20000 in
theorem gX7_init_X6_init_n18 : GoodIn wsX7_init (wsX6_init) := ggX7_init_X6_init
theorem i_X7_init_X0 : ∀ w ∈ u_ws RX0 TX0 3, w ∈ wsX7_init := fun _ h_ => mb_X7_init_wsX00 h_
theorem i_X7_init_X1 : ∀ w ∈ u_ws RX1 TX1 6, w ∈ wsX7_init := fun _ h_ => mb_X7_init_wsX10 h_
theorem i_X7_init_X2 : ∀ w ∈ u_ws RX2 TX2 6, w ∈ wsX7_init := fun _ h_ => mb_X7_init_wsX20 h_
theorem i_X7_init_X3 : ∀ w ∈ u_ws RX3 TX3 13, w ∈ wsX7_init := fun _ h_ => mb_X7_init_wsX30 h_
theorem i_X7_init_X4 : ∀ w ∈ u_ws RX4 TX4 3, w ∈ wsX7_init := fun _ h_ => mb_X7_init_wsX40 h_
theorem i_X7_init_X5 : ∀ w ∈ u_ws RX5 TX5 3, w ∈ wsX7_init := fun _ h_ => mb_X7_init_wsX50 h_
theorem i_X7_init_X6 : ∀ w ∈ u_ws RX6 TX6 6, w ∈ wsX7_init := fun _ h_ => mb_X7_init_wsX60 h_
theorem mb_X7_init_wsX70 {w : Cond} (h : w ∈ wsX70) : w ∈ wsX7_init := by unfold wsX7_init; exact List.mem_cons_of_mem _ (List.mem_append_left _ (List.mem_append_left _ (List.mem_append_left _ (List.mem_append_left _ (List.mem_append_left _ (List.mem_append_left _ (List.mem_append_right _ (h))))))))
theorem i_X7_init_X7 : ∀ w ∈ u_ws RX7 TX7 11, w ∈ wsX7_init := fun _ h_ => mb_X7_init_wsX70 h_
theorem mb_X8_init_wsX80 {w : Cond} (h : w ∈ wsX80) : w ∈ wsX8_init := by unfold wsX8_init; exact List.mem_cons_of_mem _ (List.mem_append_right _ (h))
theorem i_X8_init_X8 : ∀ w ∈ u_ws RX8 TX8 24, w ∈ wsX8_init := fun _ h_ => mb_X8_init_wsX80 h_
theorem mx_X7_init_1 : Cond.methodLink RX7 1 objectInit ∈ wsX7_init := mb_X7_init_wsX7_init_r1 (List.mem_of_getElem? (i := 0) rfl)
theorem mx_X7_init_4 : Cond.classLink RX7 7 RX5 ∈ wsX7_init := mb_X7_init_wsX7_init_r1 (List.mem_of_getElem? (i := 3) rfl)
theorem mx_X7_init_5 : Cond.instantiable RX5 3 ∈ wsX7_init := mb_X7_init_wsX7_init_r1 (List.mem_of_getElem? (i := 4) rfl)
theorem mx_X7_init_6 : Cond.initialized RX5 ∈ wsX7_init := mb_X7_init_wsX7_init_r1 (List.mem_of_getElem? (i := 5) rfl)
theorem mx_X7_init_34 : Cond.methodLink RX7 9 yX5_init ∈ wsX7_init := mb_X7_init_wsX7_init_r2 (List.mem_of_getElem? (i := 9) rfl)
theorem mx_X7_init_35 : Cond.instanceMethod yX5_init ∈ wsX7_init := mb_X7_init_wsX7_init_r2 (List.mem_of_getElem? (i := 10) rfl)
theorem mx_X7_init_7 : Cond.fieldLink RX7 10 "MillTalk" "rows" "LMillTalk$Rows;" ∈ wsX7_init := mb_X7_init_wsX7_init_r1 (List.mem_of_getElem? (i := 6) rfl)
theorem mx_X7_init_8 : Cond.classLink RX7 16 RX6 ∈ wsX7_init := mb_X7_init_wsX7_init_r1 (List.mem_of_getElem? (i := 7) rfl)
theorem mx_X7_init_9 : Cond.instantiable RX6 6 ∈ wsX7_init := mb_X7_init_wsX7_init_r1 (List.mem_of_getElem? (i := 8) rfl)
theorem mx_X7_init_10 : Cond.initialized RX6 ∈ wsX7_init := mb_X7_init_wsX7_init_r1 (List.mem_of_getElem? (i := 9) rfl)
theorem mx_X7_init_47 : Cond.instanceMethod yX6_init ∈ wsX7_init := mb_X7_init_wsX7_init_r2 (List.mem_of_getElem? (i := 22) rfl)
theorem mx_X7_init_11 : Cond.fieldLink RX7 19 "MillTalk" "tape" "LMillTalk$Tape;" ∈ wsX7_init := mb_X7_init_wsX7_init_r1 (List.mem_of_getElem? (i := 10) rfl)
theorem mx_X7_init_12 : Cond.classLink RX7 23 RX3 ∈ wsX7_init := mb_X7_init_wsX7_init_r1 (List.mem_of_getElem? (i := 11) rfl)
theorem mx_X7_init_15 : Cond.fieldLink RX7 26 "MillTalk" "now" "LMillTalk$Level;" ∈ wsX7_init := mb_X7_init_wsX7_init_r1 (List.mem_of_getElem? (i := 14) rfl)
theorem mx_X7_init_16 : Cond.classLink RX7 30 RX0 ∈ wsX7_init := mb_X7_init_wsX7_init_r1 (List.mem_of_getElem? (i := 15) rfl)
theorem mx_X7_init_17 : Cond.instantiable RX0 3 ∈ wsX7_init := mb_X7_init_wsX7_init_r1 (List.mem_of_getElem? (i := 16) rfl)
theorem mx_X7_init_18 : Cond.initialized RX0 ∈ wsX7_init := mb_X7_init_wsX7_init_r1 (List.mem_of_getElem? (i := 17) rfl)
theorem mx_X7_init_61 : Cond.methodLink RX7 32 yX0_init ∈ wsX7_init := mb_X7_init_wsX7_init_r3 (List.mem_of_getElem? (i := 12) rfl)
theorem mx_X7_init_62 : Cond.instanceMethod yX0_init ∈ wsX7_init := mb_X7_init_wsX7_init_r3 (List.mem_of_getElem? (i := 13) rfl)
theorem mx_X7_init_19 : Cond.fieldLink RX7 33 "MillTalk" "acts" "LMillTalk$Acts;" ∈ wsX7_init := mb_X7_init_wsX7_init_r1 (List.mem_of_getElem? (i := 18) rfl)
theorem mx_X7_init_20 : Cond.fieldLink RX7 37 "MillTalk" "images" "[LMillTalk$Level;" ∈ wsX7_init := mb_X7_init_wsX7_init_r1 (List.mem_of_getElem? (i := 19) rfl)
theorem mx_X7_init_21 : Cond.fieldLink RX7 41 "MillTalk" "trial" "LMillTalk$Level;" ∈ wsX7_init := mb_X7_init_wsX7_init_r1 (List.mem_of_getElem? (i := 20) rfl)
theorem mx_X7_init_22 : Cond.classLink RX7 44 RX4 ∈ wsX7_init := mb_X7_init_wsX7_init_r1 (List.mem_of_getElem? (i := 21) rfl)
theorem mx_X7_init_23 : Cond.instantiable RX4 3 ∈ wsX7_init := mb_X7_init_wsX7_init_r1 (List.mem_of_getElem? (i := 22) rfl)
theorem mx_X7_init_24 : Cond.initialized RX4 ∈ wsX7_init := mb_X7_init_wsX7_init_r1 (List.mem_of_getElem? (i := 23) rfl)
theorem mx_X7_init_67 : Cond.instanceMethod yX4_init ∈ wsX7_init := mb_X7_init_wsX7_init_r3 (List.mem_of_getElem? (i := 18) rfl)
theorem mx_X7_init_25 : Cond.fieldLink RX7 47 "MillTalk" "play" "LMillTalk$Play;" ∈ wsX7_init := mb_X7_init_wsX7_init_r2 (List.mem_of_getElem? (i := 0) rfl)
theorem mx_X7_init_26 : Cond.classLink RX7 51 RX2 ∈ wsX7_init := mb_X7_init_wsX7_init_r2 (List.mem_of_getElem? (i := 1) rfl)
theorem mx_X7_init_27 : Cond.instantiable RX2 6 ∈ wsX7_init := mb_X7_init_wsX7_init_r2 (List.mem_of_getElem? (i := 2) rfl)
theorem mx_X7_init_28 : Cond.initialized RX2 ∈ wsX7_init := mb_X7_init_wsX7_init_r2 (List.mem_of_getElem? (i := 3) rfl)
theorem mx_X7_init_73 : Cond.methodLink RX7 53 yX2_init ∈ wsX7_init := mb_X7_init_wsX7_init_r4 (List.mem_of_getElem? (i := 0) rfl)
theorem mx_X7_init_74 : Cond.instanceMethod yX2_init ∈ wsX7_init := mb_X7_init_wsX7_init_r4 (List.mem_of_getElem? (i := 1) rfl)
theorem mx_X7_init_29 : Cond.fieldLink RX7 54 "MillTalk" "capSearch" "LMillTalk$CapSearch;" ∈ wsX7_init := mb_X7_init_wsX7_init_r2 (List.mem_of_getElem? (i := 4) rfl)
theorem mx_X7_init_30 : Cond.classLink RX7 58 RX1 ∈ wsX7_init := mb_X7_init_wsX7_init_r2 (List.mem_of_getElem? (i := 5) rfl)
theorem mx_X7_init_31 : Cond.instantiable RX1 6 ∈ wsX7_init := mb_X7_init_wsX7_init_r2 (List.mem_of_getElem? (i := 6) rfl)
theorem mx_X7_init_32 : Cond.initialized RX1 ∈ wsX7_init := mb_X7_init_wsX7_init_r2 (List.mem_of_getElem? (i := 7) rfl)
theorem mx_X7_init_79 : Cond.instanceMethod yX1_init ∈ wsX7_init := mb_X7_init_wsX7_init_r4 (List.mem_of_getElem? (i := 6) rfl)
theorem mx_X7_init_33 : Cond.fieldLink RX7 61 "MillTalk" "asks" "LMillTalk$Asks;" ∈ wsX7_init := mb_X7_init_wsX7_init_r2 (List.mem_of_getElem? (i := 8) rfl)
theorem mx_X8_init_1 : Cond.methodLink RX8 1 objectInit ∈ wsX8_init := by unfold wsX8_init; exact List.mem_cons_of_mem _ (List.mem_append_left _ (List.mem_of_getElem? (i := 0) rfl))
theorem mx_X8_init_2 : Cond.instanceMethod objectInit ∈ wsX8_init := by unfold wsX8_init; exact List.mem_cons_of_mem _ (List.mem_append_left _ (List.mem_of_getElem? (i := 1) rfl))
theorem mx_X8_init_4 : Cond.arrayClass .int ∈ wsX8_init := by unfold wsX8_init; exact List.mem_cons_of_mem _ (List.mem_append_left _ (List.mem_of_getElem? (i := 3) rfl))
theorem mx_X8_init_5 : Cond.fieldLink RX8 7 "MillTalkModel" "lanes" "[I" ∈ wsX8_init := by unfold wsX8_init; exact List.mem_cons_of_mem _ (List.mem_append_left _ (List.mem_of_getElem? (i := 4) rfl))
theorem mx_X8_init_6 : Cond.fieldLink RX8 13 "MillTalkModel" "sizes" "[I" ∈ wsX8_init := by unfold wsX8_init; exact List.mem_cons_of_mem _ (List.mem_append_left _ (List.mem_of_getElem? (i := 5) rfl))
theorem mx_X8_init_7 : Cond.fieldLink RX8 16 "MillTalkModel" "items" "[I" ∈ wsX8_init := by unfold wsX8_init; exact List.mem_cons_of_mem _ (List.mem_append_left _ (List.mem_of_getElem? (i := 6) rfl))
theorem mx_X8_init_8 : Cond.fieldLink RX8 19 "MillTalkModel" "st" "[I" ∈ wsX8_init := by unfold wsX8_init; exact List.mem_cons_of_mem _ (List.mem_append_left _ (List.mem_of_getElem? (i := 7) rfl))
theorem mx_X8_init_9 : Cond.fieldLink RX8 22 "MillTalkModel" "moved" "[I" ∈ wsX8_init := by unfold wsX8_init; exact List.mem_cons_of_mem _ (List.mem_append_left _ (List.mem_of_getElem? (i := 8) rfl))
theorem mx_X8_init_10 : Cond.fieldLink RX8 25 "MillTalkModel" "tape" "[I" ∈ wsX8_init := by unfold wsX8_init; exact List.mem_cons_of_mem _ (List.mem_append_left _ (List.mem_of_getElem? (i := 9) rfl))
theorem mx_X8_init_11 : Cond.fieldLink RX8 28 "MillTalkModel" "read" "[I" ∈ wsX8_init := by unfold wsX8_init; exact List.mem_cons_of_mem _ (List.mem_append_left _ (List.mem_of_getElem? (i := 10) rfl))
theorem mx_X8_init_12 : Cond.fieldLink RX8 31 "MillTalkModel" "acts" "[I" ∈ wsX8_init := by unfold wsX8_init; exact List.mem_cons_of_mem _ (List.mem_append_left _ (List.mem_of_getElem? (i := 11) rfl))
theorem mx_X8_init_13 : Cond.fieldLink RX8 34 "MillTalkModel" "aside" "[I" ∈ wsX8_init := by unfold wsX8_init; exact List.mem_cons_of_mem _ (List.mem_append_left _ (List.mem_of_getElem? (i := 12) rfl))
theorem mx_X8_init_14 : Cond.fieldLink RX8 37 "MillTalkModel" "worths" "[I" ∈ wsX8_init := by unfold wsX8_init; exact List.mem_cons_of_mem _ (List.mem_append_left _ (List.mem_of_getElem? (i := 13) rfl))
theorem mx_X8_init_15 : Cond.arrayClass .boolean ∈ wsX8_init := by unfold wsX8_init; exact List.mem_cons_of_mem _ (List.mem_append_left _ (List.mem_of_getElem? (i := 14) rfl))
theorem mx_X8_init_16 : Cond.fieldLink RX8 40 "MillTalkModel" "isKept" "[Z" ∈ wsX8_init := by unfold wsX8_init; exact List.mem_cons_of_mem _ (List.mem_append_left _ (List.mem_of_getElem? (i := 15) rfl))
theorem mx_X8_init_17 : Cond.fieldLink RX8 44 "MillTalkModel" "kept" "[I" ∈ wsX8_init := by unfold wsX8_init; exact List.mem_cons_of_mem _ (List.mem_append_left _ (List.mem_of_getElem? (i := 16) rfl))
theorem mx_X8_init_18 : Cond.fieldLink RX8 47 "MillTalkModel" "trace" "[I" ∈ wsX8_init := by unfold wsX8_init; exact List.mem_cons_of_mem _ (List.mem_append_left _ (List.mem_of_getElem? (i := 17) rfl))
