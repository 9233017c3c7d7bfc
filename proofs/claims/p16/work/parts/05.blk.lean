/-! Levels in any number: six cells each -/
noncomputable def lv6 (cI : ClassId) (h : Nat) (b : Nat → Nat) (v : Nat → Int32) (g : Nat → Nat → Int32) : va_W := [(xo_3_iiiiiiiirrrrr h (v 0) (v 1) (v 2) (v 3) (v 4) (v 5) (v 6) (v 7) (b 0) (b 1) (b 2) (b 3) (b 4)), (b 0, .inl (cI, 6, .inl (g 0))), (b 1, .inl (cI, 6, .inl (g 1))), (b 2, .inl (cI, 6, .inl (g 2))), (b 3, .inl (cI, 6, .inl (g 3))), (b 4, .inl (cI, 6, .inl (g 4)))]
noncomputable def lvs (cI : ClassId) (n : Nat) (ad : Nat → Nat) (bd : Nat → Nat → Nat) (V : Nat → Nat → Int32) (G : Nat → Nat → Nat → Int32) : va_W := (List.range n).flatMap (fun i => lv6 cI (ad i) (bd i) (V i) (G i))
theorem fm_congr {α β : Type} {l : List α} {f g : α → List β} (h : ∀ a ∈ l, f a = g a) : l.flatMap f = l.flatMap g := by
  rw [List.flatMap_def, List.flatMap_def, List.map_congr_left h]
theorem fm_split {β : Type} {n i : Nat} (f : Nat → List β) (hi : i < n) : (List.range n).flatMap f = (List.range i).flatMap f ++ (f i ++ (List.range' (i + 1) (n - i - 1)).flatMap f) := by
  have e1 : List.range n = List.range i ++ (i :: List.range' (i + 1) (n - i - 1)) := by
    rw [List.range_eq_range', List.range_eq_range']
    have e2 : (i :: List.range' (i + 1) (n - i - 1)) = List.range' i (n - i) := by
      rw [show n - i = (n - i - 1) + 1 by omega, List.range'_succ]
      rfl
    rw [e2]
    have e3 := @List.range'_append 0 i (n - i) 1
    rw [show i + (n - i) = n by omega] at e3
    rw [← e3]
    congr 1
    simp
  rw [e1, List.flatMap_append, List.flatMap_cons]
theorem wp_swap {D : va_G} {cl : List vw_C} {H : Heap} {X L1 b L2 : va_W} (h : va_P D cl (X ++ (L1 ++ (b ++ L2))) H) : va_P D cl ((X ++ b) ++ (L1 ++ L2)) H := by
  rw [← List.append_assoc] at h
  have h1 := va_P.swap h
  rw [← List.append_assoc X b L2] at h1
  have h2 := va_P.swap h1
  rw [List.append_assoc] at h2
  exact h2
theorem wp_unswap {D : va_G} {cl : List vw_C} {H : Heap} {X L1 b L2 : va_W} (h : va_P D cl ((X ++ b) ++ (L1 ++ L2)) H) : va_P D cl (X ++ (L1 ++ (b ++ L2))) H := by
  rw [← List.append_assoc (X ++ b)] at h
  have h1 := va_P.swap h
  rw [List.append_assoc X b L2] at h1
  have h2 := va_P.swap h1
  rw [List.append_assoc] at h2
  exact h2
theorem wd_swap {A : Nat → Prop} {X L1 b L2 : va_W} (h : va_D A (X ++ (L1 ++ (b ++ L2)))) : va_D A ((X ++ b) ++ (L1 ++ L2)) := by
  rw [← List.append_assoc] at h
  have h1 := va_D.swap h
  rw [← List.append_assoc X b L2] at h1
  have h2 := va_D.swap h1
  rw [List.append_assoc] at h2
  exact h2
theorem wd_unswap {A : Nat → Prop} {X L1 b L2 : va_W} (h : va_D A ((X ++ b) ++ (L1 ++ L2))) : va_D A (X ++ (L1 ++ (b ++ L2))) := by
  rw [← List.append_assoc (X ++ b)] at h
  have h1 := va_D.swap h
  rw [List.append_assoc X b L2] at h1
  have h2 := va_D.swap h1
  rw [List.append_assoc] at h2
  exact h2
/-- one of many levels, beside the explicit cells; and back again -/
theorem blk_open {D : va_G} {cl : List vw_C} {A : Nat → Prop} {H : Heap} {cI : ClassId} {n : Nat} {ad : Nat → Nat} {bd : Nat → Nat → Nat} {V : Nat → Nat → Int32} {G : Nat → Nat → Nat → Int32} {X : va_W} (hP : va_P D cl (X ++ lvs cI n ad bd V G) H) (hD : va_D A (X ++ lvs cI n ad bd V G)) {i : Nat} (hi : i < n) :
    ∃ pl : va_W, va_P D cl ((X ++ lv6 cI (ad i) (bd i) (V i) (G i)) ++ pl) H ∧ va_D A ((X ++ lv6 cI (ad i) (bd i) (V i) (G i)) ++ pl) ∧
      (∀ (X1 : va_W) (v : Nat → Int32) (g : Nat → Nat → Int32) (H1 : Heap), va_P D cl ((X1 ++ lv6 cI (ad i) (bd i) v g) ++ pl) H1 → va_P D cl (X1 ++ lvs cI n ad bd (va_up V i v) (va_up G i g)) H1) ∧
      (∀ (X1 : va_W) (v : Nat → Int32) (g : Nat → Nat → Int32) (A1 : Nat → Prop), va_D A1 ((X1 ++ lv6 cI (ad i) (bd i) v g) ++ pl) → va_D A1 (X1 ++ lvs cI n ad bd (va_up V i v) (va_up G i g))) := by
  have e0 : lvs cI n ad bd V G = (List.range i).flatMap (fun j => lv6 cI (ad j) (bd j) (V j) (G j)) ++ (lv6 cI (ad i) (bd i) (V i) (G i) ++ (List.range' (i + 1) (n - i - 1)).flatMap (fun j => lv6 cI (ad j) (bd j) (V j) (G j))) := fm_split _ hi
  have e1 : ∀ (v : Nat → Int32) (g : Nat → Nat → Int32), lvs cI n ad bd (va_up V i v) (va_up G i g) = (List.range i).flatMap (fun j => lv6 cI (ad j) (bd j) (V j) (G j)) ++ (lv6 cI (ad i) (bd i) v g ++ (List.range' (i + 1) (n - i - 1)).flatMap (fun j => lv6 cI (ad j) (bd j) (V j) (G j))) := by
    intro v g
    refine (fm_split _ hi).trans ?_
    rw [va_up_self, va_up_self]
    congr 1
    · apply fm_congr
      intro j hj
      have hne : j ≠ i := fun q => by
        rw [List.mem_range] at hj
        omega
      rw [va_up_ne _ _ hne, va_up_ne _ _ hne]
    · congr 1
      apply fm_congr
      intro j hj
      have hne : j ≠ i := fun q => by
        rw [List.mem_range'_1] at hj
        omega
      rw [va_up_ne _ _ hne, va_up_ne _ _ hne]
  rw [e0] at hP hD
  refine ⟨_, wp_swap hP, wd_swap hD, fun X1 v g H1 h => ?_, fun X1 v g A1 h => ?_⟩
  · rw [e1]
    exact wp_unswap h
  · rw [e1]
    exact wd_unswap h
/-- a level that stood as a whole: hour, winds and sounds in their bounds -/
noncomputable def okL (v : Nat → Int32) : Prop := ∃ h w k : Nat, v 4 = nI h ∧ h ≤ 999 ∧ v 6 = nI w ∧ w ≤ 6 ∧ v 7 = nI k ∧ k ≤ 6
theorem okL_up {V : Nat → Nat → Int32} {v : Nat → Int32} {n i : Nat} (h : ∀ j : Nat, j < n → okL (V j)) (hv : okL v) : ∀ j : Nat, j < n → okL (va_up V i v j) := by
  intro j hj
  by_cases q : j = i
  · rw [q, va_up_self]
    exact hv
  · rw [va_up_ne _ _ q]
    exact h j hj
theorem mmin_nat {a b : Nat} (ha : a < 2 ^ 31) (hb : b < 2 ^ 31) : ∃ u : Nat, u ≤ a ∧ u ≤ b ∧ (u = if b < a then b else a) ∧ (if nI b < nI a then nI b else nI a) = nI u := by
  have e := nI_ltI hb ha
  by_cases h : b < a
  · exact ⟨b, by omega, by omega, (if_pos h).symm, if_pos (e.mpr h)⟩
  · exact ⟨a, by omega, by omega, (if_neg h).symm, if_neg (fun q => h (e.mp q))⟩
theorem mmax_nat {a b : Nat} (ha : a < 2 ^ 31) (hb : b < 2 ^ 31) : ∃ u : Nat, a ≤ u ∧ b ≤ u ∧ (u = if a < b then b else a) ∧ (if nI a < nI b then nI b else nI a) = nI u := by
  have e := nI_ltI ha hb
  by_cases h : a < b
  · exact ⟨b, by omega, by omega, (if_pos h).symm, if_pos (e.mpr h)⟩
  · exact ⟨a, by omega, by omega, (if_neg h).symm, if_neg (fun q => h (e.mp q))⟩
/-- places i .. i + n - 1 of a row of at most 40 items -/
noncomputable def hpF (i n : Int32) : Prop := ∃ a b : Nat, i = nI a ∧ n = nI b ∧ a + b ≤ 40
theorem hp_fact {i n len v : Int32} {L : Nat} (h1 : ¬ i < 0) (h2 : ¬ n < 0) (hl : len = nI L) (hL : L ≤ 40) (e : v = len - n) (h3 : ¬ v < i) : hpF i n := by
  obtain ⟨a, ha, rfl⟩ := nI_of h1
  obtain ⟨b, hb, rfl⟩ := nI_of h2
  refine ⟨a, b, rfl, rfl, ?_⟩
  rw [e, hl, Int32.lt_iff_toInt_lt, nI_toInt ha] at h3
  have e1 : (nI L - nI b).toInt = (L : Int) - b := by
    rw [Int32.toInt_sub, nI_toInt (by omega), nI_toInt hb]
    apply Int.bmod_eq_of_le <;> omega
  rw [e1] at h3
  omega
theorem fe_up {fe fn : Nat → Int32} {j n : Nat} (h : ∀ j : Nat, j < 8 → ∃ q : Nat, q ≤ 40 ∧ fe j = nI q) (hj : j < 2 ^ 31) (hn : n ≤ 40) (e : fn = upd fe (nI j).toNatClampNeg (nI n)) : ∀ j : Nat, j < 8 → ∃ q : Nat, q ≤ 40 ∧ fn j = nI q := by
  intro i hi
  rw [e]
  unfold upd
  split
  · exact ⟨n, hn, rfl⟩
  · exact h i hi
/-- the byte at a place of the tape -/
noncomputable def bAt (fb : Nat → Int32) (z : Nat) (i : Int32) : Int32 := if i < 0 ∨ nI z ≤ i then -1 else fb i.toNatClampNeg
theorem in_mono {x : Int32} {n m : Nat} (h : vp_in x n) (hm : n ≤ m) : vp_in x m := by
  rw [vp_in_iff] at h ⊢
  omega
theorem fm_split2 {β : Type} {n i : Nat} (f : Nat → List β) (hi : i + 1 < n) : (List.range n).flatMap f = (List.range i).flatMap f ++ ((f i ++ f (i + 1)) ++ (List.range' (i + 2) (n - i - 2)).flatMap f) := by
  rw [fm_split f (show i < n by omega), show n - i - 1 = (n - i - 2) + 1 by omega, List.range'_succ, List.flatMap_cons, List.append_assoc (f i)]
/-- two levels side by side of many -/
theorem blk_open2 {D : va_G} {cl : List vw_C} {A : Nat → Prop} {H : Heap} {cI : ClassId} {n : Nat} {ad : Nat → Nat} {bd : Nat → Nat → Nat} {V : Nat → Nat → Int32} {G : Nat → Nat → Nat → Int32} {X : va_W} (hP : va_P D cl (X ++ lvs cI n ad bd V G) H) (hD : va_D A (X ++ lvs cI n ad bd V G)) {i : Nat} (hi : i + 1 < n) :
    ∃ pl : va_W, va_P D cl ((X ++ (lv6 cI (ad i) (bd i) (V i) (G i) ++ lv6 cI (ad (i + 1)) (bd (i + 1)) (V (i + 1)) (G (i + 1)))) ++ pl) H ∧ va_D A ((X ++ (lv6 cI (ad i) (bd i) (V i) (G i) ++ lv6 cI (ad (i + 1)) (bd (i + 1)) (V (i + 1)) (G (i + 1)))) ++ pl) ∧
      (∀ (X1 : va_W) (v : Nat → Int32) (g : Nat → Nat → Int32) (H1 : Heap), va_P D cl ((X1 ++ (lv6 cI (ad i) (bd i) (V i) (G i) ++ lv6 cI (ad (i + 1)) (bd (i + 1)) v g)) ++ pl) H1 → va_P D cl (X1 ++ lvs cI n ad bd (va_up V (i + 1) v) (va_up G (i + 1) g)) H1) ∧
      (∀ (X1 : va_W) (v : Nat → Int32) (g : Nat → Nat → Int32) (A1 : Nat → Prop), va_D A1 ((X1 ++ (lv6 cI (ad i) (bd i) (V i) (G i) ++ lv6 cI (ad (i + 1)) (bd (i + 1)) v g)) ++ pl) → va_D A1 (X1 ++ lvs cI n ad bd (va_up V (i + 1) v) (va_up G (i + 1) g))) := by
  have e0 : lvs cI n ad bd V G = (List.range i).flatMap (fun j => lv6 cI (ad j) (bd j) (V j) (G j)) ++ ((lv6 cI (ad i) (bd i) (V i) (G i) ++ lv6 cI (ad (i + 1)) (bd (i + 1)) (V (i + 1)) (G (i + 1))) ++ (List.range' (i + 2) (n - i - 2)).flatMap (fun j => lv6 cI (ad j) (bd j) (V j) (G j))) := fm_split2 _ hi
  have e1 : ∀ (v : Nat → Int32) (g : Nat → Nat → Int32), lvs cI n ad bd (va_up V (i + 1) v) (va_up G (i + 1) g) = (List.range i).flatMap (fun j => lv6 cI (ad j) (bd j) (V j) (G j)) ++ ((lv6 cI (ad i) (bd i) (V i) (G i) ++ lv6 cI (ad (i + 1)) (bd (i + 1)) v g) ++ (List.range' (i + 2) (n - i - 2)).flatMap (fun j => lv6 cI (ad j) (bd j) (V j) (G j))) := by
    intro v g
    refine (fm_split2 _ hi).trans ?_
    rw [va_up_self, va_up_self, va_up_ne V v (show i ≠ i + 1 by omega), va_up_ne G g (show i ≠ i + 1 by omega)]
    congr 1
    · apply fm_congr
      intro j hj
      have hne : j ≠ i + 1 := fun q => by
        rw [List.mem_range] at hj
        omega
      rw [va_up_ne _ _ hne, va_up_ne _ _ hne]
    · congr 1
      apply fm_congr
      intro j hj
      have hne : j ≠ i + 1 := fun q => by
        rw [List.mem_range'_1] at hj
        omega
      rw [va_up_ne _ _ hne, va_up_ne _ _ hne]
  rw [e0] at hP hD
  refine ⟨_, wp_swap hP, wd_swap hD, fun X1 v g H1 h => ?_, fun X1 v g A1 h => ?_⟩
  · rw [e1]
    exact wp_unswap h
  · rw [e1]
    exact wd_unswap h
theorem len_in {n : Int32} (h1 : ¬ n < 1) (h2 : ¬ 8 < n) : vp_in n 9 := by
  rw [vp_in_iff]
  rw [Int32.lt_iff_toInt_lt] at h1 h2
  have e1 : (1 : Int32).toInt = 1 := rfl
  have e2 : (8 : Int32).toInt = 8 := rfl
  rw [e1] at h1
  rw [e2] at h2
  constructor <;> omega
/-! the tables of the class that nobody writes -/
noncomputable def nkF : Nat → Int32 := fun j => [(-1 : Int32), 0, 1, 1, 0, 4].getD j 0
noncomputable def sbF : Nat → Int32 := fun j => [(10 : Int32), 11, 12, 0, 13, 14].getD j 0
noncomputable def mbF : Nat → Int32 := fun j => [(20 : Int32), 21, 24, 22, 23, 0].getD j 0
noncomputable def st1 (C n : String) (f : Nat → Int32) (A : Nat → Prop) (U : State) (H : Heap) : Prop := ∃ (t : Nat), va_Z C n "[I" (.ref t) A U H ∧ va_T .int t 6 (fun j => .int (f j)) A U H
noncomputable def stt (A : Nat → Prop) (U : State) (H : Heap) : Prop := st1 "MillTalk" "NEXT_KIND" nkF A U H ∧ st1 "MillTalk$Asks" "SIZE_BODIES" sbF A U H ∧ st1 "MillTalk$Asks" "MARK_BODIES" mbF A U H ∧ va_Nw (.fieldLinkNest RX1 53 "MillTalk" "NEXT_KIND" "[I" "MillTalk") U
theorem st1_moved {C n : String} {f : Nat → Int32} {A : Nat → Prop} {u U : State} {H : Heap} (h : u.vm.Alike U.vm) (hs : st1 C n f A u H) : st1 C n f A U H := by
  obtain ⟨t, h1, h2⟩ := hs
  exact ⟨t, h1.moved h, h2.moved h⟩
theorem st1_kept {C n : String} {f : Nat → Int32} {A : Nat → Prop} {U : State} {H H1 : Heap} (hs : st1 C n f A U H) (hq : ∀ a : Nat, a < H.size → ¬ A a → H1[a]? = H[a]?) : st1 C n f A U H1 := by
  obtain ⟨t, h1, h2⟩ := hs
  exact ⟨t, h1.kept hq, h2.kept hq⟩
theorem st1_narrow {C n : String} {f : Nat → Int32} {A B : Nat → Prop} {U : State} {H : Heap} (hs : st1 C n f A U H) (hAB : ∀ q, B q → A q) : st1 C n f B U H := by
  obtain ⟨t, h1, h2⟩ := hs
  exact ⟨t, h1.narrow hAB, h2.narrow hAB⟩
theorem stt_warm {A : Nat → Prop} {s U : State} {H : Heap} (hW : s.WarmedH U.vm) (h : stt A s H) : stt A U H := ⟨st1_moved hW.alike h.1, st1_moved hW.alike h.2.1, st1_moved hW.alike h.2.2.1, va_Nw.warmF hW h.2.2.2⟩
theorem stt_same {A : Nat → Prop} {u U : State} {H : Heap} (e : u.vm = U.vm) (h : stt A u H) : stt A U H := by
  have h0 : u.vm.Alike U.vm := by rw [e]; exact Vm.Alike.refl _
  exact ⟨st1_moved h0 h.1, st1_moved h0 h.2.1, st1_moved h0 h.2.2.1, va_Nw.same rfl e h.2.2.2⟩
theorem stt_kept {A : Nat → Prop} {U : State} {H H1 : Heap} (h : stt A U H) (hq : ∀ a : Nat, a < H.size → ¬ A a → H1[a]? = H[a]?) : stt A U H1 := ⟨st1_kept h.1 hq, st1_kept h.2.1 hq, st1_kept h.2.2.1 hq, h.2.2.2⟩
theorem stt_narrow {A B : Nat → Prop} {U : State} {H : Heap} (h : stt A U H) (hAB : ∀ q, B q → A q) : stt B U H := ⟨st1_narrow h.1 hAB, st1_narrow h.2.1 hAB, st1_narrow h.2.2.1 hAB, h.2.2.2⟩
theorem in_6 {x : Int32} (h1 : ¬ x ≤ 0) (h2 : ¬ 6 ≤ x) : vp_in x 6 := by
  rw [vp_in_iff]
  rw [Int32.le_iff_toInt_le] at h1 h2
  have e1 : (0 : Int32).toInt = 0 := rfl
  have e2 : (6 : Int32).toInt = 6 := rfl
  rw [e1] at h1
  rw [e2] at h2
  constructor <;> omega
theorem in_6b {x : Int32} (h1 : ¬ x < 0) (h2 : ¬ 6 ≤ x) : vp_in x 6 := in_of h1 h2 (by decide)
/-! a level closed again: its cells one by one -/
theorem lv6_mk {cI : ClassId} {h : Nat} {b : Nat → Nat} {a0 a1 a2 a3 a4 a5 a6 a7 : Int32} {f0 f1 f2 f3 f4 : Nat → Int32} : lv6 cI h b (fun k => [a0, a1, a2, a3, a4, a5, a6, a7].getD k 0) (fun k => [f0, f1, f2, f3, f4].getD k (fun _ => 0)) = ([(xo_3_iiiiiiiirrrrr h a0 a1 a2 a3 a4 a5 a6 a7 (b 0) (b 1) (b 2) (b 3) (b 4)), (b 0, .inl (cI, 6, .inl f0)), (b 1, .inl (cI, 6, .inl f1)), (b 2, .inl (cI, 6, .inl f2)), (b 3, .inl (cI, 6, .inl f3)), (b 4, .inl (cI, 6, .inl f4))] : va_W) := rfl
theorem blk_opn {D : va_G} {cl : List vw_C} {A : Nat → Prop} {H : Heap} {cI : ClassId} {n : Nat} {ad : Nat → Nat} {bd : Nat → Nat → Nat} {V : Nat → Nat → Int32} {G : Nat → Nat → Nat → Int32} {X : va_W} (hP : va_P D cl (X ++ lvs cI n ad bd V G) H) (hD : va_D A (X ++ lvs cI n ad bd V G)) {i : Nat} (hi : i < n) :
    ∃ pl : va_W, va_P D cl ((X ++ lv6 cI (ad i) (bd i) (V i) (G i)) ++ pl) H ∧ va_D A ((X ++ lv6 cI (ad i) (bd i) (V i) (G i)) ++ pl) ∧
      (∀ (X1 : va_W) (a0 a1 a2 a3 a4 a5 a6 a7 : Int32) (f0 f1 f2 f3 f4 : Nat → Int32) (H1 : Heap), va_P D cl ((X1 ++ ([(ad i, .inr (3, [.int a0, .int a1, .int a2, .int a3, .int a4, .int a5, .int a6, .int a7, .ref (bd i 0), .ref (bd i 1), .ref (bd i 2), .ref (bd i 3), .ref (bd i 4)])), (bd i 0, .inl (cI, 6, .inl f0)), (bd i 1, .inl (cI, 6, .inl f1)), (bd i 2, .inl (cI, 6, .inl f2)), (bd i 3, .inl (cI, 6, .inl f3)), (bd i 4, .inl (cI, 6, .inl f4))] : va_W)) ++ pl) H1 → va_P D cl (X1 ++ lvs cI n ad bd (va_up V i (fun k => [a0, a1, a2, a3, a4, a5, a6, a7].getD k 0)) (va_up G i (fun k => [f0, f1, f2, f3, f4].getD k (fun _ => 0)))) H1) ∧
      (∀ (X1 : va_W) (a0 a1 a2 a3 a4 a5 a6 a7 : Int32) (f0 f1 f2 f3 f4 : Nat → Int32) (A1 : Nat → Prop), va_D A1 ((X1 ++ ([(ad i, .inr (3, [.int a0, .int a1, .int a2, .int a3, .int a4, .int a5, .int a6, .int a7, .ref (bd i 0), .ref (bd i 1), .ref (bd i 2), .ref (bd i 3), .ref (bd i 4)])), (bd i 0, .inl (cI, 6, .inl f0)), (bd i 1, .inl (cI, 6, .inl f1)), (bd i 2, .inl (cI, 6, .inl f2)), (bd i 3, .inl (cI, 6, .inl f3)), (bd i 4, .inl (cI, 6, .inl f4))] : va_W)) ++ pl) → va_D A1 (X1 ++ lvs cI n ad bd (va_up V i (fun k => [a0, a1, a2, a3, a4, a5, a6, a7].getD k 0)) (va_up G i (fun k => [f0, f1, f2, f3, f4].getD k (fun _ => 0))))) := by
  obtain ⟨pl, h1, h2, h3, h4⟩ := blk_open hP hD hi
  exact ⟨pl, h1, h2, fun X1 a0 a1 a2 a3 a4 a5 a6 a7 f0 f1 f2 f3 f4 H1 h => h3 X1 (fun k => [a0, a1, a2, a3, a4, a5, a6, a7].getD k 0) (fun k => [f0, f1, f2, f3, f4].getD k (fun _ => 0)) H1 (by rw [lv6_mk]; exact h), fun X1 a0 a1 a2 a3 a4 a5 a6 a7 f0 f1 f2 f3 f4 A1 h => h4 X1 (fun k => [a0, a1, a2, a3, a4, a5, a6, a7].getD k 0) (fun k => [f0, f1, f2, f3, f4].getD k (fun _ => 0)) A1 (by rw [lv6_mk]; exact h)⟩
theorem blk_opn2 {D : va_G} {cl : List vw_C} {A : Nat → Prop} {H : Heap} {cI : ClassId} {n : Nat} {ad : Nat → Nat} {bd : Nat → Nat → Nat} {V : Nat → Nat → Int32} {G : Nat → Nat → Nat → Int32} {X : va_W} (hP : va_P D cl (X ++ lvs cI n ad bd V G) H) (hD : va_D A (X ++ lvs cI n ad bd V G)) {i : Nat} (hi : i + 1 < n) :
    ∃ pl : va_W, va_P D cl ((X ++ (lv6 cI (ad i) (bd i) (V i) (G i) ++ lv6 cI (ad (i + 1)) (bd (i + 1)) (V (i + 1)) (G (i + 1)))) ++ pl) H ∧ va_D A ((X ++ (lv6 cI (ad i) (bd i) (V i) (G i) ++ lv6 cI (ad (i + 1)) (bd (i + 1)) (V (i + 1)) (G (i + 1)))) ++ pl) ∧
      (∀ (X1 : va_W) (x4 x6 x7 : Int32) (a0 a1 a2 a3 a4 a5 a6 a7 : Int32) (f0 f1 f2 f3 f4 : Nat → Int32) (H1 : Heap), V i 4 = x4 → V i 6 = x6 → V i 7 = x7 → va_P D cl ((X1 ++ ([(ad i, .inr (3, [.int (V i 0), .int (V i 1), .int (V i 2), .int (V i 3), .int x4, .int (V i 5), .int x6, .int x7, .ref (bd i 0), .ref (bd i 1), .ref (bd i 2), .ref (bd i 3), .ref (bd i 4)])), (bd i 0, .inl (cI, 6, .inl (G i 0))), (bd i 1, .inl (cI, 6, .inl (G i 1))), (bd i 2, .inl (cI, 6, .inl (G i 2))), (bd i 3, .inl (cI, 6, .inl (G i 3))), (bd i 4, .inl (cI, 6, .inl (G i 4))), (ad (i + 1), .inr (3, [.int a0, .int a1, .int a2, .int a3, .int a4, .int a5, .int a6, .int a7, .ref (bd (i + 1) 0), .ref (bd (i + 1) 1), .ref (bd (i + 1) 2), .ref (bd (i + 1) 3), .ref (bd (i + 1) 4)])), (bd (i + 1) 0, .inl (cI, 6, .inl f0)), (bd (i + 1) 1, .inl (cI, 6, .inl f1)), (bd (i + 1) 2, .inl (cI, 6, .inl f2)), (bd (i + 1) 3, .inl (cI, 6, .inl f3)), (bd (i + 1) 4, .inl (cI, 6, .inl f4))] : va_W)) ++ pl) H1 → va_P D cl (X1 ++ lvs cI n ad bd (va_up V (i + 1) (fun k => [a0, a1, a2, a3, a4, a5, a6, a7].getD k 0)) (va_up G (i + 1) (fun k => [f0, f1, f2, f3, f4].getD k (fun _ => 0)))) H1) ∧
      (∀ (X1 : va_W) (x4 x6 x7 : Int32) (a0 a1 a2 a3 a4 a5 a6 a7 : Int32) (f0 f1 f2 f3 f4 : Nat → Int32) (A1 : Nat → Prop), V i 4 = x4 → V i 6 = x6 → V i 7 = x7 → va_D A1 ((X1 ++ ([(ad i, .inr (3, [.int (V i 0), .int (V i 1), .int (V i 2), .int (V i 3), .int x4, .int (V i 5), .int x6, .int x7, .ref (bd i 0), .ref (bd i 1), .ref (bd i 2), .ref (bd i 3), .ref (bd i 4)])), (bd i 0, .inl (cI, 6, .inl (G i 0))), (bd i 1, .inl (cI, 6, .inl (G i 1))), (bd i 2, .inl (cI, 6, .inl (G i 2))), (bd i 3, .inl (cI, 6, .inl (G i 3))), (bd i 4, .inl (cI, 6, .inl (G i 4))), (ad (i + 1), .inr (3, [.int a0, .int a1, .int a2, .int a3, .int a4, .int a5, .int a6, .int a7, .ref (bd (i + 1) 0), .ref (bd (i + 1) 1), .ref (bd (i + 1) 2), .ref (bd (i + 1) 3), .ref (bd (i + 1) 4)])), (bd (i + 1) 0, .inl (cI, 6, .inl f0)), (bd (i + 1) 1, .inl (cI, 6, .inl f1)), (bd (i + 1) 2, .inl (cI, 6, .inl f2)), (bd (i + 1) 3, .inl (cI, 6, .inl f3)), (bd (i + 1) 4, .inl (cI, 6, .inl f4))] : va_W)) ++ pl) → va_D A1 (X1 ++ lvs cI n ad bd (va_up V (i + 1) (fun k => [a0, a1, a2, a3, a4, a5, a6, a7].getD k 0)) (va_up G (i + 1) (fun k => [f0, f1, f2, f3, f4].getD k (fun _ => 0))))) := by
  obtain ⟨pl, h1, h2, h3, h4⟩ := blk_open2 hP hD hi
  refine ⟨pl, h1, h2, fun X1 x4 x6 x7 a0 a1 a2 a3 a4 a5 a6 a7 f0 f1 f2 f3 f4 H1 e4 e6 e7 h => ?_, fun X1 x4 x6 x7 a0 a1 a2 a3 a4 a5 a6 a7 f0 f1 f2 f3 f4 A1 e4 e6 e7 h => ?_⟩
  · rw [← e4, ← e6, ← e7] at h
    exact h3 X1 (fun k => [a0, a1, a2, a3, a4, a5, a6, a7].getD k 0) (fun k => [f0, f1, f2, f3, f4].getD k (fun _ => 0)) H1 (by rw [lv6_mk (h := ad (i + 1))]; exact h)
  · rw [← e4, ← e6, ← e7] at h
    exact h4 X1 (fun k => [a0, a1, a2, a3, a4, a5, a6, a7].getD k 0) (fun k => [f0, f1, f2, f3, f4].getD k (fun _ => 0)) A1 (by rw [lv6_mk (h := ad (i + 1))]; exact h)
theorem gt_app {X pl wc : va_W} {is : List Nat} (hs : is.map (fun i => X[i]?) = wc.map some) : is.map (fun i => (X ++ pl)[i]?) = wc.map some := by
  rw [← hs]
  apply List.map_congr_left
  intro i hi
  have h1 : X[i]? ∈ wc.map some := by
    rw [← hs]
    exact List.mem_map_of_mem hi
  obtain ⟨c, -, hc⟩ := List.mem_map.mp h1
  have h2 : i < X.length := by
    rcases Nat.lt_or_ge i X.length with q | q
    · exact q
    · rw [List.getElem?_eq_none q] at hc
      cases hc
  exact List.getElem?_append_left h2
theorem cutX {D : va_G} {cl : List vw_C} {X pl wc : va_W} {H0 H : Heap} {A : Nat → Prop} {locs : List Loc} (hP : va_P D cl (X ++ pl) H) (hD : va_D A (X ++ pl)) (hS : va_S A H0 H locs) (hA : ∀ q, H0.size ≤ q → A q) (is : List Nat) (hn : va_nd is = true) (hs : is.map (fun i => X[i]?) = wc.map some) : va_P D cl wc H ∧ va_D A wc ∧ ∀ q, va_A wc H.size q → A q := cutW hP hD hS hA is hn (gt_app hs)
theorem xl_0_2 {q0 q1 : Prop} {P : Prop} (h : q0 ∧ q1) (k : q0 → q1 → P) : P := by
  obtain ⟨h0, h1⟩ := h
  exact k h0 h1
theorem xl_1_2 {α0 : Type} {q0 q1 : α0 → Prop} {P : Prop} (h : ∃ (a0 : α0), q0 a0 ∧ q1 a0) (k : ∀ (a0 : α0), q0 a0 → q1 a0 → P) : P := by
  obtain ⟨a0, h0, h1⟩ := h
  exact k a0 h0 h1
theorem xl_1_3 {α0 : Type} {q0 q1 q2 : α0 → Prop} {P : Prop} (h : ∃ (a0 : α0), q0 a0 ∧ q1 a0 ∧ q2 a0) (k : ∀ (a0 : α0), q0 a0 → q1 a0 → q2 a0 → P) : P := by
  obtain ⟨a0, h0, h1, h2⟩ := h
  exact k a0 h0 h1 h2
theorem xl_1_4 {α0 : Type} {q0 q1 q2 q3 : α0 → Prop} {P : Prop} (h : ∃ (a0 : α0), q0 a0 ∧ q1 a0 ∧ q2 a0 ∧ q3 a0) (k : ∀ (a0 : α0), q0 a0 → q1 a0 → q2 a0 → q3 a0 → P) : P := by
  obtain ⟨a0, h0, h1, h2, h3⟩ := h
  exact k a0 h0 h1 h2 h3
theorem xl_2_2 {α0 α1 : Type} {q0 q1 : α0 → α1 → Prop} {P : Prop} (h : ∃ (a0 : α0) (a1 : α1), q0 a0 a1 ∧ q1 a0 a1) (k : ∀ (a0 : α0) (a1 : α1), q0 a0 a1 → q1 a0 a1 → P) : P := by
  obtain ⟨a0, a1, h0, h1⟩ := h
  exact k a0 a1 h0 h1
theorem xl_2_4 {α0 α1 : Type} {q0 q1 q2 q3 : α0 → α1 → Prop} {P : Prop} (h : ∃ (a0 : α0) (a1 : α1), q0 a0 a1 ∧ q1 a0 a1 ∧ q2 a0 a1 ∧ q3 a0 a1) (k : ∀ (a0 : α0) (a1 : α1), q0 a0 a1 → q1 a0 a1 → q2 a0 a1 → q3 a0 a1 → P) : P := by
  obtain ⟨a0, a1, h0, h1, h2, h3⟩ := h
  exact k a0 a1 h0 h1 h2 h3
theorem xl_2_5 {α0 α1 : Type} {q0 q1 q2 q3 q4 : α0 → α1 → Prop} {P : Prop} (h : ∃ (a0 : α0) (a1 : α1), q0 a0 a1 ∧ q1 a0 a1 ∧ q2 a0 a1 ∧ q3 a0 a1 ∧ q4 a0 a1) (k : ∀ (a0 : α0) (a1 : α1), q0 a0 a1 → q1 a0 a1 → q2 a0 a1 → q3 a0 a1 → q4 a0 a1 → P) : P := by
  obtain ⟨a0, a1, h0, h1, h2, h3, h4⟩ := h
  exact k a0 a1 h0 h1 h2 h3 h4
theorem xl_2_7 {α0 α1 : Type} {q0 q1 q2 q3 q4 q5 q6 : α0 → α1 → Prop} {P : Prop} (h : ∃ (a0 : α0) (a1 : α1), q0 a0 a1 ∧ q1 a0 a1 ∧ q2 a0 a1 ∧ q3 a0 a1 ∧ q4 a0 a1 ∧ q5 a0 a1 ∧ q6 a0 a1) (k : ∀ (a0 : α0) (a1 : α1), q0 a0 a1 → q1 a0 a1 → q2 a0 a1 → q3 a0 a1 → q4 a0 a1 → q5 a0 a1 → q6 a0 a1 → P) : P := by
  obtain ⟨a0, a1, h0, h1, h2, h3, h4, h5, h6⟩ := h
  exact k a0 a1 h0 h1 h2 h3 h4 h5 h6
theorem xl_3_3 {α0 α1 α2 : Type} {q0 q1 q2 : α0 → α1 → α2 → Prop} {P : Prop} (h : ∃ (a0 : α0) (a1 : α1) (a2 : α2), q0 a0 a1 a2 ∧ q1 a0 a1 a2 ∧ q2 a0 a1 a2) (k : ∀ (a0 : α0) (a1 : α1) (a2 : α2), q0 a0 a1 a2 → q1 a0 a1 a2 → q2 a0 a1 a2 → P) : P := by
  obtain ⟨a0, a1, a2, h0, h1, h2⟩ := h
  exact k a0 a1 a2 h0 h1 h2
theorem xl_3_4 {α0 α1 α2 : Type} {q0 q1 q2 q3 : α0 → α1 → α2 → Prop} {P : Prop} (h : ∃ (a0 : α0) (a1 : α1) (a2 : α2), q0 a0 a1 a2 ∧ q1 a0 a1 a2 ∧ q2 a0 a1 a2 ∧ q3 a0 a1 a2) (k : ∀ (a0 : α0) (a1 : α1) (a2 : α2), q0 a0 a1 a2 → q1 a0 a1 a2 → q2 a0 a1 a2 → q3 a0 a1 a2 → P) : P := by
  obtain ⟨a0, a1, a2, h0, h1, h2, h3⟩ := h
  exact k a0 a1 a2 h0 h1 h2 h3
theorem xl_3_5 {α0 α1 α2 : Type} {q0 q1 q2 q3 q4 : α0 → α1 → α2 → Prop} {P : Prop} (h : ∃ (a0 : α0) (a1 : α1) (a2 : α2), q0 a0 a1 a2 ∧ q1 a0 a1 a2 ∧ q2 a0 a1 a2 ∧ q3 a0 a1 a2 ∧ q4 a0 a1 a2) (k : ∀ (a0 : α0) (a1 : α1) (a2 : α2), q0 a0 a1 a2 → q1 a0 a1 a2 → q2 a0 a1 a2 → q3 a0 a1 a2 → q4 a0 a1 a2 → P) : P := by
  obtain ⟨a0, a1, a2, h0, h1, h2, h3, h4⟩ := h
  exact k a0 a1 a2 h0 h1 h2 h3 h4
theorem xl_4_3 {α0 α1 α2 α3 : Type} {q0 q1 q2 : α0 → α1 → α2 → α3 → Prop} {P : Prop} (h : ∃ (a0 : α0) (a1 : α1) (a2 : α2) (a3 : α3), q0 a0 a1 a2 a3 ∧ q1 a0 a1 a2 a3 ∧ q2 a0 a1 a2 a3) (k : ∀ (a0 : α0) (a1 : α1) (a2 : α2) (a3 : α3), q0 a0 a1 a2 a3 → q1 a0 a1 a2 a3 → q2 a0 a1 a2 a3 → P) : P := by
  obtain ⟨a0, a1, a2, a3, h0, h1, h2⟩ := h
  exact k a0 a1 a2 a3 h0 h1 h2
theorem xl_4_4 {α0 α1 α2 α3 : Type} {q0 q1 q2 q3 : α0 → α1 → α2 → α3 → Prop} {P : Prop} (h : ∃ (a0 : α0) (a1 : α1) (a2 : α2) (a3 : α3), q0 a0 a1 a2 a3 ∧ q1 a0 a1 a2 a3 ∧ q2 a0 a1 a2 a3 ∧ q3 a0 a1 a2 a3) (k : ∀ (a0 : α0) (a1 : α1) (a2 : α2) (a3 : α3), q0 a0 a1 a2 a3 → q1 a0 a1 a2 a3 → q2 a0 a1 a2 a3 → q3 a0 a1 a2 a3 → P) : P := by
  obtain ⟨a0, a1, a2, a3, h0, h1, h2, h3⟩ := h
  exact k a0 a1 a2 a3 h0 h1 h2 h3
theorem xl_4_9 {α0 α1 α2 α3 : Type} {q0 q1 q2 q3 q4 q5 q6 q7 q8 : α0 → α1 → α2 → α3 → Prop} {P : Prop} (h : ∃ (a0 : α0) (a1 : α1) (a2 : α2) (a3 : α3), q0 a0 a1 a2 a3 ∧ q1 a0 a1 a2 a3 ∧ q2 a0 a1 a2 a3 ∧ q3 a0 a1 a2 a3 ∧ q4 a0 a1 a2 a3 ∧ q5 a0 a1 a2 a3 ∧ q6 a0 a1 a2 a3 ∧ q7 a0 a1 a2 a3 ∧ q8 a0 a1 a2 a3) (k : ∀ (a0 : α0) (a1 : α1) (a2 : α2) (a3 : α3), q0 a0 a1 a2 a3 → q1 a0 a1 a2 a3 → q2 a0 a1 a2 a3 → q3 a0 a1 a2 a3 → q4 a0 a1 a2 a3 → q5 a0 a1 a2 a3 → q6 a0 a1 a2 a3 → q7 a0 a1 a2 a3 → q8 a0 a1 a2 a3 → P) : P := by
  obtain ⟨a0, a1, a2, a3, h0, h1, h2, h3, h4, h5, h6, h7, h8⟩ := h
  exact k a0 a1 a2 a3 h0 h1 h2 h3 h4 h5 h6 h7 h8
theorem xl_5_2 {α0 α1 α2 α3 α4 : Type} {q0 q1 : α0 → α1 → α2 → α3 → α4 → Prop} {P : Prop} (h : ∃ (a0 : α0) (a1 : α1) (a2 : α2) (a3 : α3) (a4 : α4), q0 a0 a1 a2 a3 a4 ∧ q1 a0 a1 a2 a3 a4) (k : ∀ (a0 : α0) (a1 : α1) (a2 : α2) (a3 : α3) (a4 : α4), q0 a0 a1 a2 a3 a4 → q1 a0 a1 a2 a3 a4 → P) : P := by
  obtain ⟨a0, a1, a2, a3, a4, h0, h1⟩ := h
  exact k a0 a1 a2 a3 a4 h0 h1
theorem xl_5_3 {α0 α1 α2 α3 α4 : Type} {q0 q1 q2 : α0 → α1 → α2 → α3 → α4 → Prop} {P : Prop} (h : ∃ (a0 : α0) (a1 : α1) (a2 : α2) (a3 : α3) (a4 : α4), q0 a0 a1 a2 a3 a4 ∧ q1 a0 a1 a2 a3 a4 ∧ q2 a0 a1 a2 a3 a4) (k : ∀ (a0 : α0) (a1 : α1) (a2 : α2) (a3 : α3) (a4 : α4), q0 a0 a1 a2 a3 a4 → q1 a0 a1 a2 a3 a4 → q2 a0 a1 a2 a3 a4 → P) : P := by
  obtain ⟨a0, a1, a2, a3, a4, h0, h1, h2⟩ := h
  exact k a0 a1 a2 a3 a4 h0 h1 h2
theorem xl_5_4 {α0 α1 α2 α3 α4 : Type} {q0 q1 q2 q3 : α0 → α1 → α2 → α3 → α4 → Prop} {P : Prop} (h : ∃ (a0 : α0) (a1 : α1) (a2 : α2) (a3 : α3) (a4 : α4), q0 a0 a1 a2 a3 a4 ∧ q1 a0 a1 a2 a3 a4 ∧ q2 a0 a1 a2 a3 a4 ∧ q3 a0 a1 a2 a3 a4) (k : ∀ (a0 : α0) (a1 : α1) (a2 : α2) (a3 : α3) (a4 : α4), q0 a0 a1 a2 a3 a4 → q1 a0 a1 a2 a3 a4 → q2 a0 a1 a2 a3 a4 → q3 a0 a1 a2 a3 a4 → P) : P := by
  obtain ⟨a0, a1, a2, a3, a4, h0, h1, h2, h3⟩ := h
  exact k a0 a1 a2 a3 a4 h0 h1 h2 h3
theorem xl_5_5 {α0 α1 α2 α3 α4 : Type} {q0 q1 q2 q3 q4 : α0 → α1 → α2 → α3 → α4 → Prop} {P : Prop} (h : ∃ (a0 : α0) (a1 : α1) (a2 : α2) (a3 : α3) (a4 : α4), q0 a0 a1 a2 a3 a4 ∧ q1 a0 a1 a2 a3 a4 ∧ q2 a0 a1 a2 a3 a4 ∧ q3 a0 a1 a2 a3 a4 ∧ q4 a0 a1 a2 a3 a4) (k : ∀ (a0 : α0) (a1 : α1) (a2 : α2) (a3 : α3) (a4 : α4), q0 a0 a1 a2 a3 a4 → q1 a0 a1 a2 a3 a4 → q2 a0 a1 a2 a3 a4 → q3 a0 a1 a2 a3 a4 → q4 a0 a1 a2 a3 a4 → P) : P := by
  obtain ⟨a0, a1, a2, a3, a4, h0, h1, h2, h3, h4⟩ := h
  exact k a0 a1 a2 a3 a4 h0 h1 h2 h3 h4
theorem xl_5_7 {α0 α1 α2 α3 α4 : Type} {q0 q1 q2 q3 q4 q5 q6 : α0 → α1 → α2 → α3 → α4 → Prop} {P : Prop} (h : ∃ (a0 : α0) (a1 : α1) (a2 : α2) (a3 : α3) (a4 : α4), q0 a0 a1 a2 a3 a4 ∧ q1 a0 a1 a2 a3 a4 ∧ q2 a0 a1 a2 a3 a4 ∧ q3 a0 a1 a2 a3 a4 ∧ q4 a0 a1 a2 a3 a4 ∧ q5 a0 a1 a2 a3 a4 ∧ q6 a0 a1 a2 a3 a4) (k : ∀ (a0 : α0) (a1 : α1) (a2 : α2) (a3 : α3) (a4 : α4), q0 a0 a1 a2 a3 a4 → q1 a0 a1 a2 a3 a4 → q2 a0 a1 a2 a3 a4 → q3 a0 a1 a2 a3 a4 → q4 a0 a1 a2 a3 a4 → q5 a0 a1 a2 a3 a4 → q6 a0 a1 a2 a3 a4 → P) : P := by
  obtain ⟨a0, a1, a2, a3, a4, h0, h1, h2, h3, h4, h5, h6⟩ := h
  exact k a0 a1 a2 a3 a4 h0 h1 h2 h3 h4 h5 h6
theorem xl_6_4 {α0 α1 α2 α3 α4 α5 : Type} {q0 q1 q2 q3 : α0 → α1 → α2 → α3 → α4 → α5 → Prop} {P : Prop} (h : ∃ (a0 : α0) (a1 : α1) (a2 : α2) (a3 : α3) (a4 : α4) (a5 : α5), q0 a0 a1 a2 a3 a4 a5 ∧ q1 a0 a1 a2 a3 a4 a5 ∧ q2 a0 a1 a2 a3 a4 a5 ∧ q3 a0 a1 a2 a3 a4 a5) (k : ∀ (a0 : α0) (a1 : α1) (a2 : α2) (a3 : α3) (a4 : α4) (a5 : α5), q0 a0 a1 a2 a3 a4 a5 → q1 a0 a1 a2 a3 a4 a5 → q2 a0 a1 a2 a3 a4 a5 → q3 a0 a1 a2 a3 a4 a5 → P) : P := by
  obtain ⟨a0, a1, a2, a3, a4, a5, h0, h1, h2, h3⟩ := h
  exact k a0 a1 a2 a3 a4 a5 h0 h1 h2 h3
theorem xl_6_6 {α0 α1 α2 α3 α4 α5 : Type} {q0 q1 q2 q3 q4 q5 : α0 → α1 → α2 → α3 → α4 → α5 → Prop} {P : Prop} (h : ∃ (a0 : α0) (a1 : α1) (a2 : α2) (a3 : α3) (a4 : α4) (a5 : α5), q0 a0 a1 a2 a3 a4 a5 ∧ q1 a0 a1 a2 a3 a4 a5 ∧ q2 a0 a1 a2 a3 a4 a5 ∧ q3 a0 a1 a2 a3 a4 a5 ∧ q4 a0 a1 a2 a3 a4 a5 ∧ q5 a0 a1 a2 a3 a4 a5) (k : ∀ (a0 : α0) (a1 : α1) (a2 : α2) (a3 : α3) (a4 : α4) (a5 : α5), q0 a0 a1 a2 a3 a4 a5 → q1 a0 a1 a2 a3 a4 a5 → q2 a0 a1 a2 a3 a4 a5 → q3 a0 a1 a2 a3 a4 a5 → q4 a0 a1 a2 a3 a4 a5 → q5 a0 a1 a2 a3 a4 a5 → P) : P := by
  obtain ⟨a0, a1, a2, a3, a4, a5, h0, h1, h2, h3, h4, h5⟩ := h
  exact k a0 a1 a2 a3 a4 a5 h0 h1 h2 h3 h4 h5
theorem xl_6_7 {α0 α1 α2 α3 α4 α5 : Type} {q0 q1 q2 q3 q4 q5 q6 : α0 → α1 → α2 → α3 → α4 → α5 → Prop} {P : Prop} (h : ∃ (a0 : α0) (a1 : α1) (a2 : α2) (a3 : α3) (a4 : α4) (a5 : α5), q0 a0 a1 a2 a3 a4 a5 ∧ q1 a0 a1 a2 a3 a4 a5 ∧ q2 a0 a1 a2 a3 a4 a5 ∧ q3 a0 a1 a2 a3 a4 a5 ∧ q4 a0 a1 a2 a3 a4 a5 ∧ q5 a0 a1 a2 a3 a4 a5 ∧ q6 a0 a1 a2 a3 a4 a5) (k : ∀ (a0 : α0) (a1 : α1) (a2 : α2) (a3 : α3) (a4 : α4) (a5 : α5), q0 a0 a1 a2 a3 a4 a5 → q1 a0 a1 a2 a3 a4 a5 → q2 a0 a1 a2 a3 a4 a5 → q3 a0 a1 a2 a3 a4 a5 → q4 a0 a1 a2 a3 a4 a5 → q5 a0 a1 a2 a3 a4 a5 → q6 a0 a1 a2 a3 a4 a5 → P) : P := by
  obtain ⟨a0, a1, a2, a3, a4, a5, h0, h1, h2, h3, h4, h5, h6⟩ := h
  exact k a0 a1 a2 a3 a4 a5 h0 h1 h2 h3 h4 h5 h6
theorem xl_7_2 {α0 α1 α2 α3 α4 α5 α6 : Type} {q0 q1 : α0 → α1 → α2 → α3 → α4 → α5 → α6 → Prop} {P : Prop} (h : ∃ (a0 : α0) (a1 : α1) (a2 : α2) (a3 : α3) (a4 : α4) (a5 : α5) (a6 : α6), q0 a0 a1 a2 a3 a4 a5 a6 ∧ q1 a0 a1 a2 a3 a4 a5 a6) (k : ∀ (a0 : α0) (a1 : α1) (a2 : α2) (a3 : α3) (a4 : α4) (a5 : α5) (a6 : α6), q0 a0 a1 a2 a3 a4 a5 a6 → q1 a0 a1 a2 a3 a4 a5 a6 → P) : P := by
  obtain ⟨a0, a1, a2, a3, a4, a5, a6, h0, h1⟩ := h
  exact k a0 a1 a2 a3 a4 a5 a6 h0 h1
theorem xl_8_2 {α0 α1 α2 α3 α4 α5 α6 α7 : Type} {q0 q1 : α0 → α1 → α2 → α3 → α4 → α5 → α6 → α7 → Prop} {P : Prop} (h : ∃ (a0 : α0) (a1 : α1) (a2 : α2) (a3 : α3) (a4 : α4) (a5 : α5) (a6 : α6) (a7 : α7), q0 a0 a1 a2 a3 a4 a5 a6 a7 ∧ q1 a0 a1 a2 a3 a4 a5 a6 a7) (k : ∀ (a0 : α0) (a1 : α1) (a2 : α2) (a3 : α3) (a4 : α4) (a5 : α5) (a6 : α6) (a7 : α7), q0 a0 a1 a2 a3 a4 a5 a6 a7 → q1 a0 a1 a2 a3 a4 a5 a6 a7 → P) : P := by
  obtain ⟨a0, a1, a2, a3, a4, a5, a6, a7, h0, h1⟩ := h
  exact k a0 a1 a2 a3 a4 a5 a6 a7 h0 h1
theorem xl_8_4 {α0 α1 α2 α3 α4 α5 α6 α7 : Type} {q0 q1 q2 q3 : α0 → α1 → α2 → α3 → α4 → α5 → α6 → α7 → Prop} {P : Prop} (h : ∃ (a0 : α0) (a1 : α1) (a2 : α2) (a3 : α3) (a4 : α4) (a5 : α5) (a6 : α6) (a7 : α7), q0 a0 a1 a2 a3 a4 a5 a6 a7 ∧ q1 a0 a1 a2 a3 a4 a5 a6 a7 ∧ q2 a0 a1 a2 a3 a4 a5 a6 a7 ∧ q3 a0 a1 a2 a3 a4 a5 a6 a7) (k : ∀ (a0 : α0) (a1 : α1) (a2 : α2) (a3 : α3) (a4 : α4) (a5 : α5) (a6 : α6) (a7 : α7), q0 a0 a1 a2 a3 a4 a5 a6 a7 → q1 a0 a1 a2 a3 a4 a5 a6 a7 → q2 a0 a1 a2 a3 a4 a5 a6 a7 → q3 a0 a1 a2 a3 a4 a5 a6 a7 → P) : P := by
  obtain ⟨a0, a1, a2, a3, a4, a5, a6, a7, h0, h1, h2, h3⟩ := h
  exact k a0 a1 a2 a3 a4 a5 a6 a7 h0 h1 h2 h3
theorem xl_8_6 {α0 α1 α2 α3 α4 α5 α6 α7 : Type} {q0 q1 q2 q3 q4 q5 : α0 → α1 → α2 → α3 → α4 → α5 → α6 → α7 → Prop} {P : Prop} (h : ∃ (a0 : α0) (a1 : α1) (a2 : α2) (a3 : α3) (a4 : α4) (a5 : α5) (a6 : α6) (a7 : α7), q0 a0 a1 a2 a3 a4 a5 a6 a7 ∧ q1 a0 a1 a2 a3 a4 a5 a6 a7 ∧ q2 a0 a1 a2 a3 a4 a5 a6 a7 ∧ q3 a0 a1 a2 a3 a4 a5 a6 a7 ∧ q4 a0 a1 a2 a3 a4 a5 a6 a7 ∧ q5 a0 a1 a2 a3 a4 a5 a6 a7) (k : ∀ (a0 : α0) (a1 : α1) (a2 : α2) (a3 : α3) (a4 : α4) (a5 : α5) (a6 : α6) (a7 : α7), q0 a0 a1 a2 a3 a4 a5 a6 a7 → q1 a0 a1 a2 a3 a4 a5 a6 a7 → q2 a0 a1 a2 a3 a4 a5 a6 a7 → q3 a0 a1 a2 a3 a4 a5 a6 a7 → q4 a0 a1 a2 a3 a4 a5 a6 a7 → q5 a0 a1 a2 a3 a4 a5 a6 a7 → P) : P := by
  obtain ⟨a0, a1, a2, a3, a4, a5, a6, a7, h0, h1, h2, h3, h4, h5⟩ := h
  exact k a0 a1 a2 a3 a4 a5 a6 a7 h0 h1 h2 h3 h4 h5
theorem xl_10_5 {α0 α1 α2 α3 α4 α5 α6 α7 α8 α9 : Type} {q0 q1 q2 q3 q4 : α0 → α1 → α2 → α3 → α4 → α5 → α6 → α7 → α8 → α9 → Prop} {P : Prop} (h : ∃ (a0 : α0) (a1 : α1) (a2 : α2) (a3 : α3) (a4 : α4) (a5 : α5) (a6 : α6) (a7 : α7) (a8 : α8) (a9 : α9), q0 a0 a1 a2 a3 a4 a5 a6 a7 a8 a9 ∧ q1 a0 a1 a2 a3 a4 a5 a6 a7 a8 a9 ∧ q2 a0 a1 a2 a3 a4 a5 a6 a7 a8 a9 ∧ q3 a0 a1 a2 a3 a4 a5 a6 a7 a8 a9 ∧ q4 a0 a1 a2 a3 a4 a5 a6 a7 a8 a9) (k : ∀ (a0 : α0) (a1 : α1) (a2 : α2) (a3 : α3) (a4 : α4) (a5 : α5) (a6 : α6) (a7 : α7) (a8 : α8) (a9 : α9), q0 a0 a1 a2 a3 a4 a5 a6 a7 a8 a9 → q1 a0 a1 a2 a3 a4 a5 a6 a7 a8 a9 → q2 a0 a1 a2 a3 a4 a5 a6 a7 a8 a9 → q3 a0 a1 a2 a3 a4 a5 a6 a7 a8 a9 → q4 a0 a1 a2 a3 a4 a5 a6 a7 a8 a9 → P) : P := by
  obtain ⟨a0, a1, a2, a3, a4, a5, a6, a7, a8, a9, h0, h1, h2, h3, h4⟩ := h
  exact k a0 a1 a2 a3 a4 a5 a6 a7 a8 a9 h0 h1 h2 h3 h4
theorem xl_12_2 {α0 α1 α2 α3 α4 α5 α6 α7 α8 α9 α10 α11 : Type} {q0 q1 : α0 → α1 → α2 → α3 → α4 → α5 → α6 → α7 → α8 → α9 → α10 → α11 → Prop} {P : Prop} (h : ∃ (a0 : α0) (a1 : α1) (a2 : α2) (a3 : α3) (a4 : α4) (a5 : α5) (a6 : α6) (a7 : α7) (a8 : α8) (a9 : α9) (a10 : α10) (a11 : α11), q0 a0 a1 a2 a3 a4 a5 a6 a7 a8 a9 a10 a11 ∧ q1 a0 a1 a2 a3 a4 a5 a6 a7 a8 a9 a10 a11) (k : ∀ (a0 : α0) (a1 : α1) (a2 : α2) (a3 : α3) (a4 : α4) (a5 : α5) (a6 : α6) (a7 : α7) (a8 : α8) (a9 : α9) (a10 : α10) (a11 : α11), q0 a0 a1 a2 a3 a4 a5 a6 a7 a8 a9 a10 a11 → q1 a0 a1 a2 a3 a4 a5 a6 a7 a8 a9 a10 a11 → P) : P := by
  obtain ⟨a0, a1, a2, a3, a4, a5, a6, a7, a8, a9, a10, a11, h0, h1⟩ := h
  exact k a0 a1 a2 a3 a4 a5 a6 a7 a8 a9 a10 a11 h0 h1
theorem xl_13_2 {α0 α1 α2 α3 α4 α5 α6 α7 α8 α9 α10 α11 α12 : Type} {q0 q1 : α0 → α1 → α2 → α3 → α4 → α5 → α6 → α7 → α8 → α9 → α10 → α11 → α12 → Prop} {P : Prop} (h : ∃ (a0 : α0) (a1 : α1) (a2 : α2) (a3 : α3) (a4 : α4) (a5 : α5) (a6 : α6) (a7 : α7) (a8 : α8) (a9 : α9) (a10 : α10) (a11 : α11) (a12 : α12), q0 a0 a1 a2 a3 a4 a5 a6 a7 a8 a9 a10 a11 a12 ∧ q1 a0 a1 a2 a3 a4 a5 a6 a7 a8 a9 a10 a11 a12) (k : ∀ (a0 : α0) (a1 : α1) (a2 : α2) (a3 : α3) (a4 : α4) (a5 : α5) (a6 : α6) (a7 : α7) (a8 : α8) (a9 : α9) (a10 : α10) (a11 : α11) (a12 : α12), q0 a0 a1 a2 a3 a4 a5 a6 a7 a8 a9 a10 a11 a12 → q1 a0 a1 a2 a3 a4 a5 a6 a7 a8 a9 a10 a11 a12 → P) : P := by
  obtain ⟨a0, a1, a2, a3, a4, a5, a6, a7, a8, a9, a10, a11, a12, h0, h1⟩ := h
  exact k a0 a1 a2 a3 a4 a5 a6 a7 a8 a9 a10 a11 a12 h0 h1
theorem xl_13_9 {α0 α1 α2 α3 α4 α5 α6 α7 α8 α9 α10 α11 α12 : Type} {q0 q1 q2 q3 q4 q5 q6 q7 q8 : α0 → α1 → α2 → α3 → α4 → α5 → α6 → α7 → α8 → α9 → α10 → α11 → α12 → Prop} {P : Prop} (h : ∃ (a0 : α0) (a1 : α1) (a2 : α2) (a3 : α3) (a4 : α4) (a5 : α5) (a6 : α6) (a7 : α7) (a8 : α8) (a9 : α9) (a10 : α10) (a11 : α11) (a12 : α12), q0 a0 a1 a2 a3 a4 a5 a6 a7 a8 a9 a10 a11 a12 ∧ q1 a0 a1 a2 a3 a4 a5 a6 a7 a8 a9 a10 a11 a12 ∧ q2 a0 a1 a2 a3 a4 a5 a6 a7 a8 a9 a10 a11 a12 ∧ q3 a0 a1 a2 a3 a4 a5 a6 a7 a8 a9 a10 a11 a12 ∧ q4 a0 a1 a2 a3 a4 a5 a6 a7 a8 a9 a10 a11 a12 ∧ q5 a0 a1 a2 a3 a4 a5 a6 a7 a8 a9 a10 a11 a12 ∧ q6 a0 a1 a2 a3 a4 a5 a6 a7 a8 a9 a10 a11 a12 ∧ q7 a0 a1 a2 a3 a4 a5 a6 a7 a8 a9 a10 a11 a12 ∧ q8 a0 a1 a2 a3 a4 a5 a6 a7 a8 a9 a10 a11 a12) (k : ∀ (a0 : α0) (a1 : α1) (a2 : α2) (a3 : α3) (a4 : α4) (a5 : α5) (a6 : α6) (a7 : α7) (a8 : α8) (a9 : α9) (a10 : α10) (a11 : α11) (a12 : α12), q0 a0 a1 a2 a3 a4 a5 a6 a7 a8 a9 a10 a11 a12 → q1 a0 a1 a2 a3 a4 a5 a6 a7 a8 a9 a10 a11 a12 → q2 a0 a1 a2 a3 a4 a5 a6 a7 a8 a9 a10 a11 a12 → q3 a0 a1 a2 a3 a4 a5 a6 a7 a8 a9 a10 a11 a12 → q4 a0 a1 a2 a3 a4 a5 a6 a7 a8 a9 a10 a11 a12 → q5 a0 a1 a2 a3 a4 a5 a6 a7 a8 a9 a10 a11 a12 → q6 a0 a1 a2 a3 a4 a5 a6 a7 a8 a9 a10 a11 a12 → q7 a0 a1 a2 a3 a4 a5 a6 a7 a8 a9 a10 a11 a12 → q8 a0 a1 a2 a3 a4 a5 a6 a7 a8 a9 a10 a11 a12 → P) : P := by
  obtain ⟨a0, a1, a2, a3, a4, a5, a6, a7, a8, a9, a10, a11, a12, h0, h1, h2, h3, h4, h5, h6, h7, h8⟩ := h
  exact k a0 a1 a2 a3 a4 a5 a6 a7 a8 a9 a10 a11 a12 h0 h1 h2 h3 h4 h5 h6 h7 h8
theorem xl_15_2 {α0 α1 α2 α3 α4 α5 α6 α7 α8 α9 α10 α11 α12 α13 α14 : Type} {q0 q1 : α0 → α1 → α2 → α3 → α4 → α5 → α6 → α7 → α8 → α9 → α10 → α11 → α12 → α13 → α14 → Prop} {P : Prop} (h : ∃ (a0 : α0) (a1 : α1) (a2 : α2) (a3 : α3) (a4 : α4) (a5 : α5) (a6 : α6) (a7 : α7) (a8 : α8) (a9 : α9) (a10 : α10) (a11 : α11) (a12 : α12) (a13 : α13) (a14 : α14), q0 a0 a1 a2 a3 a4 a5 a6 a7 a8 a9 a10 a11 a12 a13 a14 ∧ q1 a0 a1 a2 a3 a4 a5 a6 a7 a8 a9 a10 a11 a12 a13 a14) (k : ∀ (a0 : α0) (a1 : α1) (a2 : α2) (a3 : α3) (a4 : α4) (a5 : α5) (a6 : α6) (a7 : α7) (a8 : α8) (a9 : α9) (a10 : α10) (a11 : α11) (a12 : α12) (a13 : α13) (a14 : α14), q0 a0 a1 a2 a3 a4 a5 a6 a7 a8 a9 a10 a11 a12 a13 a14 → q1 a0 a1 a2 a3 a4 a5 a6 a7 a8 a9 a10 a11 a12 a13 a14 → P) : P := by
  obtain ⟨a0, a1, a2, a3, a4, a5, a6, a7, a8, a9, a10, a11, a12, a13, a14, h0, h1⟩ := h
  exact k a0 a1 a2 a3 a4 a5 a6 a7 a8 a9 a10 a11 a12 a13 a14 h0 h1
theorem xl_17_11 {α0 α1 α2 α3 α4 α5 α6 α7 α8 α9 α10 α11 α12 α13 α14 α15 α16 : Type} {q0 q1 q2 q3 q4 q5 q6 q7 q8 q9 q10 : α0 → α1 → α2 → α3 → α4 → α5 → α6 → α7 → α8 → α9 → α10 → α11 → α12 → α13 → α14 → α15 → α16 → Prop} {P : Prop} (h : ∃ (a0 : α0) (a1 : α1) (a2 : α2) (a3 : α3) (a4 : α4) (a5 : α5) (a6 : α6) (a7 : α7) (a8 : α8) (a9 : α9) (a10 : α10) (a11 : α11) (a12 : α12) (a13 : α13) (a14 : α14) (a15 : α15) (a16 : α16), q0 a0 a1 a2 a3 a4 a5 a6 a7 a8 a9 a10 a11 a12 a13 a14 a15 a16 ∧ q1 a0 a1 a2 a3 a4 a5 a6 a7 a8 a9 a10 a11 a12 a13 a14 a15 a16 ∧ q2 a0 a1 a2 a3 a4 a5 a6 a7 a8 a9 a10 a11 a12 a13 a14 a15 a16 ∧ q3 a0 a1 a2 a3 a4 a5 a6 a7 a8 a9 a10 a11 a12 a13 a14 a15 a16 ∧ q4 a0 a1 a2 a3 a4 a5 a6 a7 a8 a9 a10 a11 a12 a13 a14 a15 a16 ∧ q5 a0 a1 a2 a3 a4 a5 a6 a7 a8 a9 a10 a11 a12 a13 a14 a15 a16 ∧ q6 a0 a1 a2 a3 a4 a5 a6 a7 a8 a9 a10 a11 a12 a13 a14 a15 a16 ∧ q7 a0 a1 a2 a3 a4 a5 a6 a7 a8 a9 a10 a11 a12 a13 a14 a15 a16 ∧ q8 a0 a1 a2 a3 a4 a5 a6 a7 a8 a9 a10 a11 a12 a13 a14 a15 a16 ∧ q9 a0 a1 a2 a3 a4 a5 a6 a7 a8 a9 a10 a11 a12 a13 a14 a15 a16 ∧ q10 a0 a1 a2 a3 a4 a5 a6 a7 a8 a9 a10 a11 a12 a13 a14 a15 a16) (k : ∀ (a0 : α0) (a1 : α1) (a2 : α2) (a3 : α3) (a4 : α4) (a5 : α5) (a6 : α6) (a7 : α7) (a8 : α8) (a9 : α9) (a10 : α10) (a11 : α11) (a12 : α12) (a13 : α13) (a14 : α14) (a15 : α15) (a16 : α16), q0 a0 a1 a2 a3 a4 a5 a6 a7 a8 a9 a10 a11 a12 a13 a14 a15 a16 → q1 a0 a1 a2 a3 a4 a5 a6 a7 a8 a9 a10 a11 a12 a13 a14 a15 a16 → q2 a0 a1 a2 a3 a4 a5 a6 a7 a8 a9 a10 a11 a12 a13 a14 a15 a16 → q3 a0 a1 a2 a3 a4 a5 a6 a7 a8 a9 a10 a11 a12 a13 a14 a15 a16 → q4 a0 a1 a2 a3 a4 a5 a6 a7 a8 a9 a10 a11 a12 a13 a14 a15 a16 → q5 a0 a1 a2 a3 a4 a5 a6 a7 a8 a9 a10 a11 a12 a13 a14 a15 a16 → q6 a0 a1 a2 a3 a4 a5 a6 a7 a8 a9 a10 a11 a12 a13 a14 a15 a16 → q7 a0 a1 a2 a3 a4 a5 a6 a7 a8 a9 a10 a11 a12 a13 a14 a15 a16 → q8 a0 a1 a2 a3 a4 a5 a6 a7 a8 a9 a10 a11 a12 a13 a14 a15 a16 → q9 a0 a1 a2 a3 a4 a5 a6 a7 a8 a9 a10 a11 a12 a13 a14 a15 a16 → q10 a0 a1 a2 a3 a4 a5 a6 a7 a8 a9 a10 a11 a12 a13 a14 a15 a16 → P) : P := by
  obtain ⟨a0, a1, a2, a3, a4, a5, a6, a7, a8, a9, a10, a11, a12, a13, a14, a15, a16, h0, h1, h2, h3, h4, h5, h6, h7, h8, h9, h10⟩ := h
  exact k a0 a1 a2 a3 a4 a5 a6 a7 a8 a9 a10 a11 a12 a13 a14 a15 a16 h0 h1 h2 h3 h4 h5 h6 h7 h8 h9 h10
theorem xl_27_2 {α0 α1 α2 α3 α4 α5 α6 α7 α8 α9 α10 α11 α12 α13 α14 α15 α16 α17 α18 α19 α20 α21 α22 α23 α24 α25 α26 : Type} {q0 q1 : α0 → α1 → α2 → α3 → α4 → α5 → α6 → α7 → α8 → α9 → α10 → α11 → α12 → α13 → α14 → α15 → α16 → α17 → α18 → α19 → α20 → α21 → α22 → α23 → α24 → α25 → α26 → Prop} {P : Prop} (h : ∃ (a0 : α0) (a1 : α1) (a2 : α2) (a3 : α3) (a4 : α4) (a5 : α5) (a6 : α6) (a7 : α7) (a8 : α8) (a9 : α9) (a10 : α10) (a11 : α11) (a12 : α12) (a13 : α13) (a14 : α14) (a15 : α15) (a16 : α16) (a17 : α17) (a18 : α18) (a19 : α19) (a20 : α20) (a21 : α21) (a22 : α22) (a23 : α23) (a24 : α24) (a25 : α25) (a26 : α26), q0 a0 a1 a2 a3 a4 a5 a6 a7 a8 a9 a10 a11 a12 a13 a14 a15 a16 a17 a18 a19 a20 a21 a22 a23 a24 a25 a26 ∧ q1 a0 a1 a2 a3 a4 a5 a6 a7 a8 a9 a10 a11 a12 a13 a14 a15 a16 a17 a18 a19 a20 a21 a22 a23 a24 a25 a26) (k : ∀ (a0 : α0) (a1 : α1) (a2 : α2) (a3 : α3) (a4 : α4) (a5 : α5) (a6 : α6) (a7 : α7) (a8 : α8) (a9 : α9) (a10 : α10) (a11 : α11) (a12 : α12) (a13 : α13) (a14 : α14) (a15 : α15) (a16 : α16) (a17 : α17) (a18 : α18) (a19 : α19) (a20 : α20) (a21 : α21) (a22 : α22) (a23 : α23) (a24 : α24) (a25 : α25) (a26 : α26), q0 a0 a1 a2 a3 a4 a5 a6 a7 a8 a9 a10 a11 a12 a13 a14 a15 a16 a17 a18 a19 a20 a21 a22 a23 a24 a25 a26 → q1 a0 a1 a2 a3 a4 a5 a6 a7 a8 a9 a10 a11 a12 a13 a14 a15 a16 a17 a18 a19 a20 a21 a22 a23 a24 a25 a26 → P) : P := by
  obtain ⟨a0, a1, a2, a3, a4, a5, a6, a7, a8, a9, a10, a11, a12, a13, a14, a15, a16, a17, a18, a19, a20, a21, a22, a23, a24, a25, a26, h0, h1⟩ := h
  exact k a0 a1 a2 a3 a4 a5 a6 a7 a8 a9 a10 a11 a12 a13 a14 a15 a16 a17 a18 a19 a20 a21 a22 a23 a24 a25 a26 h0 h1
theorem u1_at {c : ByteArray} {p : Nat} {b : UInt8} (h : c.data.toList[p]? = some b) : (Jvm.ClassFile.Reader.u1 (ε := Jvm.ClassFile.DecodeError)) c p = .ok (b.toNat, p + 1) := by
  obtain ⟨h1, h2⟩ := List.getElem?_eq_some_iff.mp h
  have h3 : p < c.size := by rw [Array.length_toList] at h1; exact h1
  have h4 : c[p] = b := by rw [← h2]; exact (Array.getElem_toList _).symm
  unfold Jvm.ClassFile.Reader.u1
  simp only [bind, ReaderT.bind, StateT.bind, MonadReader.read, readThe, MonadReaderOf.read, ReaderT.read, MonadState.get, getThe, MonadStateOf.get, StateT.get, liftM, monadLift, MonadLift.monadLift, Except.bind, Pure.pure, Except.pure, StateT.pure, ReaderT.pure, dif_pos h3, MonadStateOf.set, MonadState.set, StateT.set, h4]
theorem tk_at {l bs : List UInt8} {p n : Nat} (h : (l.drop p).take n = bs) {i : Nat} {b : UInt8} (hi : i < n) (hb : bs[i]? = some b) : l[p + i]? = some b := by
  rw [← h, List.getElem?_take, if_pos hi, List.getElem?_drop] at hb
  exact hb
theorem dq_50 {c : ByteArray} {pc : Nat} (h0 : c.data.toList[pc]? = some 50) : decode c pc = .ok (.aaload, 1) := by
  have e : (Jvm.ClassFile.Decoder.instr pc).runAt c pc = .ok (.aaload, pc + 1) := by
    show (Jvm.ClassFile.Decoder.instr pc) c pc = _
    unfold Jvm.ClassFile.Decoder.instr
    show (Except.bind (Jvm.ClassFile.Reader.u1 c pc) _) = _
    rw [u1_at h0]
    rfl
  unfold decode
  rw [e]
  show Except.ok (_, pc + 1 - pc) = _
  rw [Nat.add_sub_cancel_left]
theorem dq_83 {c : ByteArray} {pc : Nat} (h0 : c.data.toList[pc]? = some 83) : decode c pc = .ok (.aastore, 1) := by
  have e : (Jvm.ClassFile.Decoder.instr pc).runAt c pc = .ok (.aastore, pc + 1) := by
    show (Jvm.ClassFile.Decoder.instr pc) c pc = _
    unfold Jvm.ClassFile.Decoder.instr
    show (Except.bind (Jvm.ClassFile.Reader.u1 c pc) _) = _
    rw [u1_at h0]
    rfl
  unfold decode
  rw [e]
  show Except.ok (_, pc + 1 - pc) = _
  rw [Nat.add_sub_cancel_left]
theorem dq_42 {c : ByteArray} {pc : Nat} (h0 : c.data.toList[pc]? = some 42) : decode c pc = .ok (.aload_n 0, 1) := by
  have e : (Jvm.ClassFile.Decoder.instr pc).runAt c pc = .ok (.aload_n 0, pc + 1) := by
    show (Jvm.ClassFile.Decoder.instr pc) c pc = _
    unfold Jvm.ClassFile.Decoder.instr
    show (Except.bind (Jvm.ClassFile.Reader.u1 c pc) _) = _
    rw [u1_at h0]
    rfl
  unfold decode
  rw [e]
  show Except.ok (_, pc + 1 - pc) = _
  rw [Nat.add_sub_cancel_left]
theorem dq_43 {c : ByteArray} {pc : Nat} (h0 : c.data.toList[pc]? = some 43) : decode c pc = .ok (.aload_n 1, 1) := by
  have e : (Jvm.ClassFile.Decoder.instr pc).runAt c pc = .ok (.aload_n 1, pc + 1) := by
    show (Jvm.ClassFile.Decoder.instr pc) c pc = _
    unfold Jvm.ClassFile.Decoder.instr
    show (Except.bind (Jvm.ClassFile.Reader.u1 c pc) _) = _
    rw [u1_at h0]
    rfl
  unfold decode
  rw [e]
  show Except.ok (_, pc + 1 - pc) = _
  rw [Nat.add_sub_cancel_left]
theorem dq_44 {c : ByteArray} {pc : Nat} (h0 : c.data.toList[pc]? = some 44) : decode c pc = .ok (.aload_n 2, 1) := by
  have e : (Jvm.ClassFile.Decoder.instr pc).runAt c pc = .ok (.aload_n 2, pc + 1) := by
    show (Jvm.ClassFile.Decoder.instr pc) c pc = _
    unfold Jvm.ClassFile.Decoder.instr
    show (Except.bind (Jvm.ClassFile.Reader.u1 c pc) _) = _
    rw [u1_at h0]
    rfl
  unfold decode
  rw [e]
  show Except.ok (_, pc + 1 - pc) = _
  rw [Nat.add_sub_cancel_left]
theorem dq_190 {c : ByteArray} {pc : Nat} (h0 : c.data.toList[pc]? = some 190) : decode c pc = .ok (.arraylength, 1) := by
  have e : (Jvm.ClassFile.Decoder.instr pc).runAt c pc = .ok (.arraylength, pc + 1) := by
    show (Jvm.ClassFile.Decoder.instr pc) c pc = _
    unfold Jvm.ClassFile.Decoder.instr
    show (Except.bind (Jvm.ClassFile.Reader.u1 c pc) _) = _
    rw [u1_at h0]
    rfl
  unfold decode
  rw [e]
  show Except.ok (_, pc + 1 - pc) = _
  rw [Nat.add_sub_cancel_left]
theorem dq_76 {c : ByteArray} {pc : Nat} (h0 : c.data.toList[pc]? = some 76) : decode c pc = .ok (.astore_n 1, 1) := by
  have e : (Jvm.ClassFile.Decoder.instr pc).runAt c pc = .ok (.astore_n 1, pc + 1) := by
    show (Jvm.ClassFile.Decoder.instr pc) c pc = _
    unfold Jvm.ClassFile.Decoder.instr
    show (Except.bind (Jvm.ClassFile.Reader.u1 c pc) _) = _
    rw [u1_at h0]
    rfl
  unfold decode
  rw [e]
  show Except.ok (_, pc + 1 - pc) = _
  rw [Nat.add_sub_cancel_left]
theorem dq_77 {c : ByteArray} {pc : Nat} (h0 : c.data.toList[pc]? = some 77) : decode c pc = .ok (.astore_n 2, 1) := by
  have e : (Jvm.ClassFile.Decoder.instr pc).runAt c pc = .ok (.astore_n 2, pc + 1) := by
    show (Jvm.ClassFile.Decoder.instr pc) c pc = _
    unfold Jvm.ClassFile.Decoder.instr
    show (Except.bind (Jvm.ClassFile.Reader.u1 c pc) _) = _
    rw [u1_at h0]
    rfl
  unfold decode
  rw [e]
  show Except.ok (_, pc + 1 - pc) = _
  rw [Nat.add_sub_cancel_left]
theorem dq_51 {c : ByteArray} {pc : Nat} (h0 : c.data.toList[pc]? = some 51) : decode c pc = .ok (.baload, 1) := by
  have e : (Jvm.ClassFile.Decoder.instr pc).runAt c pc = .ok (.baload, pc + 1) := by
    show (Jvm.ClassFile.Decoder.instr pc) c pc = _
    unfold Jvm.ClassFile.Decoder.instr
    show (Except.bind (Jvm.ClassFile.Reader.u1 c pc) _) = _
    rw [u1_at h0]
    rfl
  unfold decode
  rw [e]
  show Except.ok (_, pc + 1 - pc) = _
  rw [Nat.add_sub_cancel_left]
theorem dq_84 {c : ByteArray} {pc : Nat} (h0 : c.data.toList[pc]? = some 84) : decode c pc = .ok (.bastore, 1) := by
  have e : (Jvm.ClassFile.Decoder.instr pc).runAt c pc = .ok (.bastore, pc + 1) := by
    show (Jvm.ClassFile.Decoder.instr pc) c pc = _
    unfold Jvm.ClassFile.Decoder.instr
    show (Except.bind (Jvm.ClassFile.Reader.u1 c pc) _) = _
    rw [u1_at h0]
    rfl
  unfold decode
  rw [e]
  show Except.ok (_, pc + 1 - pc) = _
  rw [Nat.add_sub_cancel_left]
theorem dq_89 {c : ByteArray} {pc : Nat} (h0 : c.data.toList[pc]? = some 89) : decode c pc = .ok (.dup, 1) := by
  have e : (Jvm.ClassFile.Decoder.instr pc).runAt c pc = .ok (.dup, pc + 1) := by
    show (Jvm.ClassFile.Decoder.instr pc) c pc = _
    unfold Jvm.ClassFile.Decoder.instr
    show (Except.bind (Jvm.ClassFile.Reader.u1 c pc) _) = _
    rw [u1_at h0]
    rfl
  unfold decode
  rw [e]
  show Except.ok (_, pc + 1 - pc) = _
  rw [Nat.add_sub_cancel_left]
theorem dq_92 {c : ByteArray} {pc : Nat} (h0 : c.data.toList[pc]? = some 92) : decode c pc = .ok (.dup2, 1) := by
  have e : (Jvm.ClassFile.Decoder.instr pc).runAt c pc = .ok (.dup2, pc + 1) := by
    show (Jvm.ClassFile.Decoder.instr pc) c pc = _
    unfold Jvm.ClassFile.Decoder.instr
    show (Except.bind (Jvm.ClassFile.Reader.u1 c pc) _) = _
    rw [u1_at h0]
    rfl
  unfold decode
  rw [e]
  show Except.ok (_, pc + 1 - pc) = _
  rw [Nat.add_sub_cancel_left]
theorem dq_145 {c : ByteArray} {pc : Nat} (h0 : c.data.toList[pc]? = some 145) : decode c pc = .ok (.i2b, 1) := by
  have e : (Jvm.ClassFile.Decoder.instr pc).runAt c pc = .ok (.i2b, pc + 1) := by
    show (Jvm.ClassFile.Decoder.instr pc) c pc = _
    unfold Jvm.ClassFile.Decoder.instr
    show (Except.bind (Jvm.ClassFile.Reader.u1 c pc) _) = _
    rw [u1_at h0]
    rfl
  unfold decode
  rw [e]
  show Except.ok (_, pc + 1 - pc) = _
  rw [Nat.add_sub_cancel_left]
theorem dq_133 {c : ByteArray} {pc : Nat} (h0 : c.data.toList[pc]? = some 133) : decode c pc = .ok (.i2l, 1) := by
  have e : (Jvm.ClassFile.Decoder.instr pc).runAt c pc = .ok (.i2l, pc + 1) := by
    show (Jvm.ClassFile.Decoder.instr pc) c pc = _
    unfold Jvm.ClassFile.Decoder.instr
    show (Except.bind (Jvm.ClassFile.Reader.u1 c pc) _) = _
    rw [u1_at h0]
    rfl
  unfold decode
  rw [e]
  show Except.ok (_, pc + 1 - pc) = _
  rw [Nat.add_sub_cancel_left]
theorem dq_147 {c : ByteArray} {pc : Nat} (h0 : c.data.toList[pc]? = some 147) : decode c pc = .ok (.i2s, 1) := by
  have e : (Jvm.ClassFile.Decoder.instr pc).runAt c pc = .ok (.i2s, pc + 1) := by
    show (Jvm.ClassFile.Decoder.instr pc) c pc = _
    unfold Jvm.ClassFile.Decoder.instr
    show (Except.bind (Jvm.ClassFile.Reader.u1 c pc) _) = _
    rw [u1_at h0]
    rfl
  unfold decode
  rw [e]
  show Except.ok (_, pc + 1 - pc) = _
  rw [Nat.add_sub_cancel_left]
theorem dq_96 {c : ByteArray} {pc : Nat} (h0 : c.data.toList[pc]? = some 96) : decode c pc = .ok (.iadd, 1) := by
  have e : (Jvm.ClassFile.Decoder.instr pc).runAt c pc = .ok (.iadd, pc + 1) := by
    show (Jvm.ClassFile.Decoder.instr pc) c pc = _
    unfold Jvm.ClassFile.Decoder.instr
    show (Except.bind (Jvm.ClassFile.Reader.u1 c pc) _) = _
    rw [u1_at h0]
    rfl
  unfold decode
  rw [e]
  show Except.ok (_, pc + 1 - pc) = _
  rw [Nat.add_sub_cancel_left]
theorem dq_46 {c : ByteArray} {pc : Nat} (h0 : c.data.toList[pc]? = some 46) : decode c pc = .ok (.iaload, 1) := by
  have e : (Jvm.ClassFile.Decoder.instr pc).runAt c pc = .ok (.iaload, pc + 1) := by
    show (Jvm.ClassFile.Decoder.instr pc) c pc = _
    unfold Jvm.ClassFile.Decoder.instr
    show (Except.bind (Jvm.ClassFile.Reader.u1 c pc) _) = _
    rw [u1_at h0]
    rfl
  unfold decode
  rw [e]
  show Except.ok (_, pc + 1 - pc) = _
  rw [Nat.add_sub_cancel_left]
theorem dq_126 {c : ByteArray} {pc : Nat} (h0 : c.data.toList[pc]? = some 126) : decode c pc = .ok (.iand, 1) := by
  have e : (Jvm.ClassFile.Decoder.instr pc).runAt c pc = .ok (.iand, pc + 1) := by
    show (Jvm.ClassFile.Decoder.instr pc) c pc = _
    unfold Jvm.ClassFile.Decoder.instr
    show (Except.bind (Jvm.ClassFile.Reader.u1 c pc) _) = _
    rw [u1_at h0]
    rfl
  unfold decode
  rw [e]
  show Except.ok (_, pc + 1 - pc) = _
  rw [Nat.add_sub_cancel_left]
theorem dq_79 {c : ByteArray} {pc : Nat} (h0 : c.data.toList[pc]? = some 79) : decode c pc = .ok (.iastore, 1) := by
  have e : (Jvm.ClassFile.Decoder.instr pc).runAt c pc = .ok (.iastore, pc + 1) := by
    show (Jvm.ClassFile.Decoder.instr pc) c pc = _
    unfold Jvm.ClassFile.Decoder.instr
    show (Except.bind (Jvm.ClassFile.Reader.u1 c pc) _) = _
    rw [u1_at h0]
    rfl
  unfold decode
  rw [e]
  show Except.ok (_, pc + 1 - pc) = _
  rw [Nat.add_sub_cancel_left]
theorem dq_2 {c : ByteArray} {pc : Nat} (h0 : c.data.toList[pc]? = some 2) : decode c pc = .ok (.iconst (-1), 1) := by
  have e : (Jvm.ClassFile.Decoder.instr pc).runAt c pc = .ok (.iconst (-1), pc + 1) := by
    show (Jvm.ClassFile.Decoder.instr pc) c pc = _
    unfold Jvm.ClassFile.Decoder.instr
    show (Except.bind (Jvm.ClassFile.Reader.u1 c pc) _) = _
    rw [u1_at h0]
    rfl
  unfold decode
  rw [e]
  show Except.ok (_, pc + 1 - pc) = _
  rw [Nat.add_sub_cancel_left]
theorem dq_3 {c : ByteArray} {pc : Nat} (h0 : c.data.toList[pc]? = some 3) : decode c pc = .ok (.iconst 0, 1) := by
  have e : (Jvm.ClassFile.Decoder.instr pc).runAt c pc = .ok (.iconst 0, pc + 1) := by
    show (Jvm.ClassFile.Decoder.instr pc) c pc = _
    unfold Jvm.ClassFile.Decoder.instr
    show (Except.bind (Jvm.ClassFile.Reader.u1 c pc) _) = _
    rw [u1_at h0]
    rfl
  unfold decode
  rw [e]
  show Except.ok (_, pc + 1 - pc) = _
  rw [Nat.add_sub_cancel_left]
theorem dq_4 {c : ByteArray} {pc : Nat} (h0 : c.data.toList[pc]? = some 4) : decode c pc = .ok (.iconst 1, 1) := by
  have e : (Jvm.ClassFile.Decoder.instr pc).runAt c pc = .ok (.iconst 1, pc + 1) := by
    show (Jvm.ClassFile.Decoder.instr pc) c pc = _
    unfold Jvm.ClassFile.Decoder.instr
    show (Except.bind (Jvm.ClassFile.Reader.u1 c pc) _) = _
    rw [u1_at h0]
    rfl
  unfold decode
  rw [e]
  show Except.ok (_, pc + 1 - pc) = _
  rw [Nat.add_sub_cancel_left]
theorem dq_5 {c : ByteArray} {pc : Nat} (h0 : c.data.toList[pc]? = some 5) : decode c pc = .ok (.iconst 2, 1) := by
  have e : (Jvm.ClassFile.Decoder.instr pc).runAt c pc = .ok (.iconst 2, pc + 1) := by
    show (Jvm.ClassFile.Decoder.instr pc) c pc = _
    unfold Jvm.ClassFile.Decoder.instr
    show (Except.bind (Jvm.ClassFile.Reader.u1 c pc) _) = _
    rw [u1_at h0]
    rfl
  unfold decode
  rw [e]
  show Except.ok (_, pc + 1 - pc) = _
  rw [Nat.add_sub_cancel_left]
theorem dq_6 {c : ByteArray} {pc : Nat} (h0 : c.data.toList[pc]? = some 6) : decode c pc = .ok (.iconst 3, 1) := by
  have e : (Jvm.ClassFile.Decoder.instr pc).runAt c pc = .ok (.iconst 3, pc + 1) := by
    show (Jvm.ClassFile.Decoder.instr pc) c pc = _
    unfold Jvm.ClassFile.Decoder.instr
    show (Except.bind (Jvm.ClassFile.Reader.u1 c pc) _) = _
    rw [u1_at h0]
    rfl
  unfold decode
  rw [e]
  show Except.ok (_, pc + 1 - pc) = _
  rw [Nat.add_sub_cancel_left]
theorem dq_7 {c : ByteArray} {pc : Nat} (h0 : c.data.toList[pc]? = some 7) : decode c pc = .ok (.iconst 4, 1) := by
  have e : (Jvm.ClassFile.Decoder.instr pc).runAt c pc = .ok (.iconst 4, pc + 1) := by
    show (Jvm.ClassFile.Decoder.instr pc) c pc = _
    unfold Jvm.ClassFile.Decoder.instr
    show (Except.bind (Jvm.ClassFile.Reader.u1 c pc) _) = _
    rw [u1_at h0]
    rfl
  unfold decode
  rw [e]
  show Except.ok (_, pc + 1 - pc) = _
  rw [Nat.add_sub_cancel_left]
theorem dq_8 {c : ByteArray} {pc : Nat} (h0 : c.data.toList[pc]? = some 8) : decode c pc = .ok (.iconst 5, 1) := by
  have e : (Jvm.ClassFile.Decoder.instr pc).runAt c pc = .ok (.iconst 5, pc + 1) := by
    show (Jvm.ClassFile.Decoder.instr pc) c pc = _
    unfold Jvm.ClassFile.Decoder.instr
    show (Except.bind (Jvm.ClassFile.Reader.u1 c pc) _) = _
    rw [u1_at h0]
    rfl
  unfold decode
  rw [e]
  show Except.ok (_, pc + 1 - pc) = _
  rw [Nat.add_sub_cancel_left]
theorem dq_108 {c : ByteArray} {pc : Nat} (h0 : c.data.toList[pc]? = some 108) : decode c pc = .ok (.idiv, 1) := by
  have e : (Jvm.ClassFile.Decoder.instr pc).runAt c pc = .ok (.idiv, pc + 1) := by
    show (Jvm.ClassFile.Decoder.instr pc) c pc = _
    unfold Jvm.ClassFile.Decoder.instr
    show (Except.bind (Jvm.ClassFile.Reader.u1 c pc) _) = _
    rw [u1_at h0]
    rfl
  unfold decode
  rw [e]
  show Except.ok (_, pc + 1 - pc) = _
  rw [Nat.add_sub_cancel_left]
theorem dq_26 {c : ByteArray} {pc : Nat} (h0 : c.data.toList[pc]? = some 26) : decode c pc = .ok (.iload_n 0, 1) := by
  have e : (Jvm.ClassFile.Decoder.instr pc).runAt c pc = .ok (.iload_n 0, pc + 1) := by
    show (Jvm.ClassFile.Decoder.instr pc) c pc = _
    unfold Jvm.ClassFile.Decoder.instr
    show (Except.bind (Jvm.ClassFile.Reader.u1 c pc) _) = _
    rw [u1_at h0]
    rfl
  unfold decode
  rw [e]
  show Except.ok (_, pc + 1 - pc) = _
  rw [Nat.add_sub_cancel_left]
theorem dq_27 {c : ByteArray} {pc : Nat} (h0 : c.data.toList[pc]? = some 27) : decode c pc = .ok (.iload_n 1, 1) := by
  have e : (Jvm.ClassFile.Decoder.instr pc).runAt c pc = .ok (.iload_n 1, pc + 1) := by
    show (Jvm.ClassFile.Decoder.instr pc) c pc = _
    unfold Jvm.ClassFile.Decoder.instr
    show (Except.bind (Jvm.ClassFile.Reader.u1 c pc) _) = _
    rw [u1_at h0]
    rfl
  unfold decode
  rw [e]
  show Except.ok (_, pc + 1 - pc) = _
  rw [Nat.add_sub_cancel_left]
theorem dq_28 {c : ByteArray} {pc : Nat} (h0 : c.data.toList[pc]? = some 28) : decode c pc = .ok (.iload_n 2, 1) := by
  have e : (Jvm.ClassFile.Decoder.instr pc).runAt c pc = .ok (.iload_n 2, pc + 1) := by
    show (Jvm.ClassFile.Decoder.instr pc) c pc = _
    unfold Jvm.ClassFile.Decoder.instr
    show (Except.bind (Jvm.ClassFile.Reader.u1 c pc) _) = _
    rw [u1_at h0]
    rfl
  unfold decode
  rw [e]
  show Except.ok (_, pc + 1 - pc) = _
  rw [Nat.add_sub_cancel_left]
theorem dq_29 {c : ByteArray} {pc : Nat} (h0 : c.data.toList[pc]? = some 29) : decode c pc = .ok (.iload_n 3, 1) := by
  have e : (Jvm.ClassFile.Decoder.instr pc).runAt c pc = .ok (.iload_n 3, pc + 1) := by
    show (Jvm.ClassFile.Decoder.instr pc) c pc = _
    unfold Jvm.ClassFile.Decoder.instr
    show (Except.bind (Jvm.ClassFile.Reader.u1 c pc) _) = _
    rw [u1_at h0]
    rfl
  unfold decode
  rw [e]
  show Except.ok (_, pc + 1 - pc) = _
  rw [Nat.add_sub_cancel_left]
theorem dq_104 {c : ByteArray} {pc : Nat} (h0 : c.data.toList[pc]? = some 104) : decode c pc = .ok (.imul, 1) := by
  have e : (Jvm.ClassFile.Decoder.instr pc).runAt c pc = .ok (.imul, pc + 1) := by
    show (Jvm.ClassFile.Decoder.instr pc) c pc = _
    unfold Jvm.ClassFile.Decoder.instr
    show (Except.bind (Jvm.ClassFile.Reader.u1 c pc) _) = _
    rw [u1_at h0]
    rfl
  unfold decode
  rw [e]
  show Except.ok (_, pc + 1 - pc) = _
  rw [Nat.add_sub_cancel_left]
theorem dq_116 {c : ByteArray} {pc : Nat} (h0 : c.data.toList[pc]? = some 116) : decode c pc = .ok (.ineg, 1) := by
  have e : (Jvm.ClassFile.Decoder.instr pc).runAt c pc = .ok (.ineg, pc + 1) := by
    show (Jvm.ClassFile.Decoder.instr pc) c pc = _
    unfold Jvm.ClassFile.Decoder.instr
    show (Except.bind (Jvm.ClassFile.Reader.u1 c pc) _) = _
    rw [u1_at h0]
    rfl
  unfold decode
  rw [e]
  show Except.ok (_, pc + 1 - pc) = _
  rw [Nat.add_sub_cancel_left]
theorem dq_128 {c : ByteArray} {pc : Nat} (h0 : c.data.toList[pc]? = some 128) : decode c pc = .ok (.ior, 1) := by
  have e : (Jvm.ClassFile.Decoder.instr pc).runAt c pc = .ok (.ior, pc + 1) := by
    show (Jvm.ClassFile.Decoder.instr pc) c pc = _
    unfold Jvm.ClassFile.Decoder.instr
    show (Except.bind (Jvm.ClassFile.Reader.u1 c pc) _) = _
    rw [u1_at h0]
    rfl
  unfold decode
  rw [e]
  show Except.ok (_, pc + 1 - pc) = _
  rw [Nat.add_sub_cancel_left]
theorem dq_112 {c : ByteArray} {pc : Nat} (h0 : c.data.toList[pc]? = some 112) : decode c pc = .ok (.irem, 1) := by
  have e : (Jvm.ClassFile.Decoder.instr pc).runAt c pc = .ok (.irem, pc + 1) := by
    show (Jvm.ClassFile.Decoder.instr pc) c pc = _
    unfold Jvm.ClassFile.Decoder.instr
    show (Except.bind (Jvm.ClassFile.Reader.u1 c pc) _) = _
    rw [u1_at h0]
    rfl
  unfold decode
  rw [e]
  show Except.ok (_, pc + 1 - pc) = _
  rw [Nat.add_sub_cancel_left]
theorem dq_172 {c : ByteArray} {pc : Nat} (h0 : c.data.toList[pc]? = some 172) : decode c pc = .ok (.ireturn, 1) := by
  have e : (Jvm.ClassFile.Decoder.instr pc).runAt c pc = .ok (.ireturn, pc + 1) := by
    show (Jvm.ClassFile.Decoder.instr pc) c pc = _
    unfold Jvm.ClassFile.Decoder.instr
    show (Except.bind (Jvm.ClassFile.Reader.u1 c pc) _) = _
    rw [u1_at h0]
    rfl
  unfold decode
  rw [e]
  show Except.ok (_, pc + 1 - pc) = _
  rw [Nat.add_sub_cancel_left]
theorem dq_120 {c : ByteArray} {pc : Nat} (h0 : c.data.toList[pc]? = some 120) : decode c pc = .ok (.ishl, 1) := by
  have e : (Jvm.ClassFile.Decoder.instr pc).runAt c pc = .ok (.ishl, pc + 1) := by
    show (Jvm.ClassFile.Decoder.instr pc) c pc = _
    unfold Jvm.ClassFile.Decoder.instr
    show (Except.bind (Jvm.ClassFile.Reader.u1 c pc) _) = _
    rw [u1_at h0]
    rfl
  unfold decode
  rw [e]
  show Except.ok (_, pc + 1 - pc) = _
  rw [Nat.add_sub_cancel_left]
theorem dq_122 {c : ByteArray} {pc : Nat} (h0 : c.data.toList[pc]? = some 122) : decode c pc = .ok (.ishr, 1) := by
  have e : (Jvm.ClassFile.Decoder.instr pc).runAt c pc = .ok (.ishr, pc + 1) := by
    show (Jvm.ClassFile.Decoder.instr pc) c pc = _
    unfold Jvm.ClassFile.Decoder.instr
    show (Except.bind (Jvm.ClassFile.Reader.u1 c pc) _) = _
    rw [u1_at h0]
    rfl
  unfold decode
  rw [e]
  show Except.ok (_, pc + 1 - pc) = _
  rw [Nat.add_sub_cancel_left]
theorem dq_59 {c : ByteArray} {pc : Nat} (h0 : c.data.toList[pc]? = some 59) : decode c pc = .ok (.istore_n 0, 1) := by
  have e : (Jvm.ClassFile.Decoder.instr pc).runAt c pc = .ok (.istore_n 0, pc + 1) := by
    show (Jvm.ClassFile.Decoder.instr pc) c pc = _
    unfold Jvm.ClassFile.Decoder.instr
    show (Except.bind (Jvm.ClassFile.Reader.u1 c pc) _) = _
    rw [u1_at h0]
    rfl
  unfold decode
  rw [e]
  show Except.ok (_, pc + 1 - pc) = _
  rw [Nat.add_sub_cancel_left]
theorem dq_60 {c : ByteArray} {pc : Nat} (h0 : c.data.toList[pc]? = some 60) : decode c pc = .ok (.istore_n 1, 1) := by
  have e : (Jvm.ClassFile.Decoder.instr pc).runAt c pc = .ok (.istore_n 1, pc + 1) := by
    show (Jvm.ClassFile.Decoder.instr pc) c pc = _
    unfold Jvm.ClassFile.Decoder.instr
    show (Except.bind (Jvm.ClassFile.Reader.u1 c pc) _) = _
    rw [u1_at h0]
    rfl
  unfold decode
  rw [e]
  show Except.ok (_, pc + 1 - pc) = _
  rw [Nat.add_sub_cancel_left]
theorem dq_61 {c : ByteArray} {pc : Nat} (h0 : c.data.toList[pc]? = some 61) : decode c pc = .ok (.istore_n 2, 1) := by
  have e : (Jvm.ClassFile.Decoder.instr pc).runAt c pc = .ok (.istore_n 2, pc + 1) := by
    show (Jvm.ClassFile.Decoder.instr pc) c pc = _
    unfold Jvm.ClassFile.Decoder.instr
    show (Except.bind (Jvm.ClassFile.Reader.u1 c pc) _) = _
    rw [u1_at h0]
    rfl
  unfold decode
  rw [e]
  show Except.ok (_, pc + 1 - pc) = _
  rw [Nat.add_sub_cancel_left]
theorem dq_62 {c : ByteArray} {pc : Nat} (h0 : c.data.toList[pc]? = some 62) : decode c pc = .ok (.istore_n 3, 1) := by
  have e : (Jvm.ClassFile.Decoder.instr pc).runAt c pc = .ok (.istore_n 3, pc + 1) := by
    show (Jvm.ClassFile.Decoder.instr pc) c pc = _
    unfold Jvm.ClassFile.Decoder.instr
    show (Except.bind (Jvm.ClassFile.Reader.u1 c pc) _) = _
    rw [u1_at h0]
    rfl
  unfold decode
  rw [e]
  show Except.ok (_, pc + 1 - pc) = _
  rw [Nat.add_sub_cancel_left]
theorem dq_100 {c : ByteArray} {pc : Nat} (h0 : c.data.toList[pc]? = some 100) : decode c pc = .ok (.isub, 1) := by
  have e : (Jvm.ClassFile.Decoder.instr pc).runAt c pc = .ok (.isub, pc + 1) := by
    show (Jvm.ClassFile.Decoder.instr pc) c pc = _
    unfold Jvm.ClassFile.Decoder.instr
    show (Except.bind (Jvm.ClassFile.Reader.u1 c pc) _) = _
    rw [u1_at h0]
    rfl
  unfold decode
  rw [e]
  show Except.ok (_, pc + 1 - pc) = _
  rw [Nat.add_sub_cancel_left]
theorem dq_124 {c : ByteArray} {pc : Nat} (h0 : c.data.toList[pc]? = some 124) : decode c pc = .ok (.iushr, 1) := by
  have e : (Jvm.ClassFile.Decoder.instr pc).runAt c pc = .ok (.iushr, pc + 1) := by
    show (Jvm.ClassFile.Decoder.instr pc) c pc = _
    unfold Jvm.ClassFile.Decoder.instr
    show (Except.bind (Jvm.ClassFile.Reader.u1 c pc) _) = _
    rw [u1_at h0]
    rfl
  unfold decode
  rw [e]
  show Except.ok (_, pc + 1 - pc) = _
  rw [Nat.add_sub_cancel_left]
theorem dq_130 {c : ByteArray} {pc : Nat} (h0 : c.data.toList[pc]? = some 130) : decode c pc = .ok (.ixor, 1) := by
  have e : (Jvm.ClassFile.Decoder.instr pc).runAt c pc = .ok (.ixor, pc + 1) := by
    show (Jvm.ClassFile.Decoder.instr pc) c pc = _
    unfold Jvm.ClassFile.Decoder.instr
    show (Except.bind (Jvm.ClassFile.Reader.u1 c pc) _) = _
    rw [u1_at h0]
    rfl
  unfold decode
  rw [e]
  show Except.ok (_, pc + 1 - pc) = _
  rw [Nat.add_sub_cancel_left]
theorem dq_136 {c : ByteArray} {pc : Nat} (h0 : c.data.toList[pc]? = some 136) : decode c pc = .ok (.l2i, 1) := by
  have e : (Jvm.ClassFile.Decoder.instr pc).runAt c pc = .ok (.l2i, pc + 1) := by
    show (Jvm.ClassFile.Decoder.instr pc) c pc = _
    unfold Jvm.ClassFile.Decoder.instr
    show (Except.bind (Jvm.ClassFile.Reader.u1 c pc) _) = _
    rw [u1_at h0]
    rfl
  unfold decode
  rw [e]
  show Except.ok (_, pc + 1 - pc) = _
  rw [Nat.add_sub_cancel_left]
theorem dq_97 {c : ByteArray} {pc : Nat} (h0 : c.data.toList[pc]? = some 97) : decode c pc = .ok (.ladd, 1) := by
  have e : (Jvm.ClassFile.Decoder.instr pc).runAt c pc = .ok (.ladd, pc + 1) := by
    show (Jvm.ClassFile.Decoder.instr pc) c pc = _
    unfold Jvm.ClassFile.Decoder.instr
    show (Except.bind (Jvm.ClassFile.Reader.u1 c pc) _) = _
    rw [u1_at h0]
    rfl
  unfold decode
  rw [e]
  show Except.ok (_, pc + 1 - pc) = _
  rw [Nat.add_sub_cancel_left]
theorem dq_148 {c : ByteArray} {pc : Nat} (h0 : c.data.toList[pc]? = some 148) : decode c pc = .ok (.lcmp, 1) := by
  have e : (Jvm.ClassFile.Decoder.instr pc).runAt c pc = .ok (.lcmp, pc + 1) := by
    show (Jvm.ClassFile.Decoder.instr pc) c pc = _
    unfold Jvm.ClassFile.Decoder.instr
    show (Except.bind (Jvm.ClassFile.Reader.u1 c pc) _) = _
    rw [u1_at h0]
    rfl
  unfold decode
  rw [e]
  show Except.ok (_, pc + 1 - pc) = _
  rw [Nat.add_sub_cancel_left]
theorem dq_9 {c : ByteArray} {pc : Nat} (h0 : c.data.toList[pc]? = some 9) : decode c pc = .ok (.lconst 0, 1) := by
  have e : (Jvm.ClassFile.Decoder.instr pc).runAt c pc = .ok (.lconst 0, pc + 1) := by
    show (Jvm.ClassFile.Decoder.instr pc) c pc = _
    unfold Jvm.ClassFile.Decoder.instr
    show (Except.bind (Jvm.ClassFile.Reader.u1 c pc) _) = _
    rw [u1_at h0]
    rfl
  unfold decode
  rw [e]
  show Except.ok (_, pc + 1 - pc) = _
  rw [Nat.add_sub_cancel_left]
theorem dq_10 {c : ByteArray} {pc : Nat} (h0 : c.data.toList[pc]? = some 10) : decode c pc = .ok (.lconst 1, 1) := by
  have e : (Jvm.ClassFile.Decoder.instr pc).runAt c pc = .ok (.lconst 1, pc + 1) := by
    show (Jvm.ClassFile.Decoder.instr pc) c pc = _
    unfold Jvm.ClassFile.Decoder.instr
    show (Except.bind (Jvm.ClassFile.Reader.u1 c pc) _) = _
    rw [u1_at h0]
    rfl
  unfold decode
  rw [e]
  show Except.ok (_, pc + 1 - pc) = _
  rw [Nat.add_sub_cancel_left]
theorem dq_109 {c : ByteArray} {pc : Nat} (h0 : c.data.toList[pc]? = some 109) : decode c pc = .ok (.ldiv, 1) := by
  have e : (Jvm.ClassFile.Decoder.instr pc).runAt c pc = .ok (.ldiv, pc + 1) := by
    show (Jvm.ClassFile.Decoder.instr pc) c pc = _
    unfold Jvm.ClassFile.Decoder.instr
    show (Except.bind (Jvm.ClassFile.Reader.u1 c pc) _) = _
    rw [u1_at h0]
    rfl
  unfold decode
  rw [e]
  show Except.ok (_, pc + 1 - pc) = _
  rw [Nat.add_sub_cancel_left]
theorem dq_30 {c : ByteArray} {pc : Nat} (h0 : c.data.toList[pc]? = some 30) : decode c pc = .ok (.lload_n 0, 1) := by
  have e : (Jvm.ClassFile.Decoder.instr pc).runAt c pc = .ok (.lload_n 0, pc + 1) := by
    show (Jvm.ClassFile.Decoder.instr pc) c pc = _
    unfold Jvm.ClassFile.Decoder.instr
    show (Except.bind (Jvm.ClassFile.Reader.u1 c pc) _) = _
    rw [u1_at h0]
    rfl
  unfold decode
  rw [e]
  show Except.ok (_, pc + 1 - pc) = _
  rw [Nat.add_sub_cancel_left]
theorem dq_31 {c : ByteArray} {pc : Nat} (h0 : c.data.toList[pc]? = some 31) : decode c pc = .ok (.lload_n 1, 1) := by
  have e : (Jvm.ClassFile.Decoder.instr pc).runAt c pc = .ok (.lload_n 1, pc + 1) := by
    show (Jvm.ClassFile.Decoder.instr pc) c pc = _
    unfold Jvm.ClassFile.Decoder.instr
    show (Except.bind (Jvm.ClassFile.Reader.u1 c pc) _) = _
    rw [u1_at h0]
    rfl
  unfold decode
  rw [e]
  show Except.ok (_, pc + 1 - pc) = _
  rw [Nat.add_sub_cancel_left]
theorem dq_32 {c : ByteArray} {pc : Nat} (h0 : c.data.toList[pc]? = some 32) : decode c pc = .ok (.lload_n 2, 1) := by
  have e : (Jvm.ClassFile.Decoder.instr pc).runAt c pc = .ok (.lload_n 2, pc + 1) := by
    show (Jvm.ClassFile.Decoder.instr pc) c pc = _
    unfold Jvm.ClassFile.Decoder.instr
    show (Except.bind (Jvm.ClassFile.Reader.u1 c pc) _) = _
    rw [u1_at h0]
    rfl
  unfold decode
  rw [e]
  show Except.ok (_, pc + 1 - pc) = _
  rw [Nat.add_sub_cancel_left]
theorem dq_105 {c : ByteArray} {pc : Nat} (h0 : c.data.toList[pc]? = some 105) : decode c pc = .ok (.lmul, 1) := by
  have e : (Jvm.ClassFile.Decoder.instr pc).runAt c pc = .ok (.lmul, pc + 1) := by
    show (Jvm.ClassFile.Decoder.instr pc) c pc = _
    unfold Jvm.ClassFile.Decoder.instr
    show (Except.bind (Jvm.ClassFile.Reader.u1 c pc) _) = _
    rw [u1_at h0]
    rfl
  unfold decode
  rw [e]
  show Except.ok (_, pc + 1 - pc) = _
  rw [Nat.add_sub_cancel_left]
theorem dq_113 {c : ByteArray} {pc : Nat} (h0 : c.data.toList[pc]? = some 113) : decode c pc = .ok (.lrem, 1) := by
  have e : (Jvm.ClassFile.Decoder.instr pc).runAt c pc = .ok (.lrem, pc + 1) := by
    show (Jvm.ClassFile.Decoder.instr pc) c pc = _
    unfold Jvm.ClassFile.Decoder.instr
    show (Except.bind (Jvm.ClassFile.Reader.u1 c pc) _) = _
    rw [u1_at h0]
    rfl
  unfold decode
  rw [e]
  show Except.ok (_, pc + 1 - pc) = _
  rw [Nat.add_sub_cancel_left]
theorem dq_173 {c : ByteArray} {pc : Nat} (h0 : c.data.toList[pc]? = some 173) : decode c pc = .ok (.lreturn, 1) := by
  have e : (Jvm.ClassFile.Decoder.instr pc).runAt c pc = .ok (.lreturn, pc + 1) := by
    show (Jvm.ClassFile.Decoder.instr pc) c pc = _
    unfold Jvm.ClassFile.Decoder.instr
    show (Except.bind (Jvm.ClassFile.Reader.u1 c pc) _) = _
    rw [u1_at h0]
    rfl
  unfold decode
  rw [e]
  show Except.ok (_, pc + 1 - pc) = _
  rw [Nat.add_sub_cancel_left]
theorem dq_101 {c : ByteArray} {pc : Nat} (h0 : c.data.toList[pc]? = some 101) : decode c pc = .ok (.lsub, 1) := by
  have e : (Jvm.ClassFile.Decoder.instr pc).runAt c pc = .ok (.lsub, pc + 1) := by
    show (Jvm.ClassFile.Decoder.instr pc) c pc = _
    unfold Jvm.ClassFile.Decoder.instr
    show (Except.bind (Jvm.ClassFile.Reader.u1 c pc) _) = _
    rw [u1_at h0]
    rfl
  unfold decode
  rw [e]
  show Except.ok (_, pc + 1 - pc) = _
  rw [Nat.add_sub_cancel_left]
theorem dq_87 {c : ByteArray} {pc : Nat} (h0 : c.data.toList[pc]? = some 87) : decode c pc = .ok (.pop, 1) := by
  have e : (Jvm.ClassFile.Decoder.instr pc).runAt c pc = .ok (.pop, pc + 1) := by
    show (Jvm.ClassFile.Decoder.instr pc) c pc = _
    unfold Jvm.ClassFile.Decoder.instr
    show (Except.bind (Jvm.ClassFile.Reader.u1 c pc) _) = _
    rw [u1_at h0]
    rfl
  unfold decode
  rw [e]
  show Except.ok (_, pc + 1 - pc) = _
  rw [Nat.add_sub_cancel_left]
theorem dq_88 {c : ByteArray} {pc : Nat} (h0 : c.data.toList[pc]? = some 88) : decode c pc = .ok (.pop2, 1) := by
  have e : (Jvm.ClassFile.Decoder.instr pc).runAt c pc = .ok (.pop2, pc + 1) := by
    show (Jvm.ClassFile.Decoder.instr pc) c pc = _
    unfold Jvm.ClassFile.Decoder.instr
    show (Except.bind (Jvm.ClassFile.Reader.u1 c pc) _) = _
    rw [u1_at h0]
    rfl
  unfold decode
  rw [e]
  show Except.ok (_, pc + 1 - pc) = _
  rw [Nat.add_sub_cancel_left]
theorem dq_177 {c : ByteArray} {pc : Nat} (h0 : c.data.toList[pc]? = some 177) : decode c pc = .ok (.return_, 1) := by
  have e : (Jvm.ClassFile.Decoder.instr pc).runAt c pc = .ok (.return_, pc + 1) := by
    show (Jvm.ClassFile.Decoder.instr pc) c pc = _
    unfold Jvm.ClassFile.Decoder.instr
    show (Except.bind (Jvm.ClassFile.Reader.u1 c pc) _) = _
    rw [u1_at h0]
    rfl
  unfold decode
  rw [e]
  show Except.ok (_, pc + 1 - pc) = _
  rw [Nat.add_sub_cancel_left]
theorem dq_132 {c : ByteArray} {pc : Nat} {b1 b2 : UInt8} {k : Nat} {n : Int} (h : (c.data.toList.drop pc).take 3 = [132, b1, b2]) (hk : b1.toNat = k) (hn : Jvm.ClassFile.Reader.signed 8 b2.toNat = n) : decode c pc = .ok (.iinc k n, 3) := by
  subst hk hn
  have h0 := tk_at h (i := 0) (by decide) rfl
  have h1 := tk_at h (i := 1) (by decide) rfl
  have h2 := tk_at h (i := 2) (by decide) rfl
  rw [Nat.add_zero] at h0
  have e : (Jvm.ClassFile.Decoder.instr pc).runAt c pc = .ok (.iinc b1.toNat (Jvm.ClassFile.Reader.signed 8 b2.toNat), pc + 3) := by
    show (Jvm.ClassFile.Decoder.instr pc) c pc = _
    unfold Jvm.ClassFile.Decoder.instr
    show (Except.bind (Jvm.ClassFile.Reader.u1 c pc) _) = _
    rw [u1_at h0]
    show (Except.bind (Jvm.ClassFile.Reader.u1 c (pc + 1)) _) = _
    rw [u1_at h1]
    show (Except.bind (Except.map _ (Jvm.ClassFile.Reader.u1 c (pc + 1 + 1))) _) = _
    rw [u1_at h2]
    rfl
  unfold decode
  rw [e]
  show Except.ok (_, pc + 3 - pc) = _
  rw [Nat.add_sub_cancel_left]
theorem dq_16 {c : ByteArray} {pc : Nat} {b1 : UInt8} {n : Int} (h : (c.data.toList.drop pc).take 2 = [16, b1]) (hn : (Jvm.ClassFile.Reader.signed 8 b1.toNat) = n) : decode c pc = .ok (.bipush n, 2) := by
  subst hn
  have h0 := tk_at h (i := 0) (by decide) rfl
  have h1 := tk_at h (i := 1) (by decide) rfl
  rw [Nat.add_zero] at h0
  have e : (Jvm.ClassFile.Decoder.instr pc).runAt c pc = .ok (.bipush (Jvm.ClassFile.Reader.signed 8 b1.toNat), pc + 2) := by
    show (Jvm.ClassFile.Decoder.instr pc) c pc = _
    unfold Jvm.ClassFile.Decoder.instr
    show (Except.bind (Jvm.ClassFile.Reader.u1 c pc) _) = _
    rw [u1_at h0]
    show (Except.bind (Except.map _ (Jvm.ClassFile.Reader.u1 c (pc + 1))) _) = _
    rw [u1_at h1]
    rfl
  unfold decode
  rw [e]
  show Except.ok (_, pc + 2 - pc) = _
  rw [Nat.add_sub_cancel_left]
theorem dq_167 {c : ByteArray} {pc : Nat} {b1 b2 : UInt8} {n : Int} (h : (c.data.toList.drop pc).take 3 = [167, b1, b2]) (hn : (Jvm.ClassFile.Reader.signed 16 (b1.toNat * 256 + b2.toNat)) = n) : decode c pc = .ok (.goto n, 3) := by
  subst hn
  have h0 := tk_at h (i := 0) (by decide) rfl
  have h1 := tk_at h (i := 1) (by decide) rfl
  have h2 := tk_at h (i := 2) (by decide) rfl
  rw [Nat.add_zero] at h0
  have e : (Jvm.ClassFile.Decoder.instr pc).runAt c pc = .ok (.goto (Jvm.ClassFile.Reader.signed 16 (b1.toNat * 256 + b2.toNat)), pc + 3) := by
    show (Jvm.ClassFile.Decoder.instr pc) c pc = _
    unfold Jvm.ClassFile.Decoder.instr
    show (Except.bind (Jvm.ClassFile.Reader.u1 c pc) _) = _
    rw [u1_at h0]
    show (Except.bind (Except.map _ (Except.bind (Jvm.ClassFile.Reader.u1 c (pc + 1)) _)) _) = _
    rw [u1_at h1]
    show (Except.bind (Except.map _ (Except.bind (Jvm.ClassFile.Reader.u1 c (pc + 1 + 1)) _)) _) = _
    rw [u1_at h2]
    rfl
  unfold decode
  rw [e]
  show Except.ok (_, pc + 3 - pc) = _
  rw [Nat.add_sub_cancel_left]
theorem dq_153 {c : ByteArray} {pc : Nat} {b1 b2 : UInt8} {n : Int} (h : (c.data.toList.drop pc).take 3 = [153, b1, b2]) (hn : (Jvm.ClassFile.Reader.signed 16 (b1.toNat * 256 + b2.toNat)) = n) : decode c pc = .ok (.ifCond .eq n, 3) := by
  subst hn
  have h0 := tk_at h (i := 0) (by decide) rfl
  have h1 := tk_at h (i := 1) (by decide) rfl
  have h2 := tk_at h (i := 2) (by decide) rfl
  rw [Nat.add_zero] at h0
  have e : (Jvm.ClassFile.Decoder.instr pc).runAt c pc = .ok (.ifCond .eq (Jvm.ClassFile.Reader.signed 16 (b1.toNat * 256 + b2.toNat)), pc + 3) := by
    show (Jvm.ClassFile.Decoder.instr pc) c pc = _
    unfold Jvm.ClassFile.Decoder.instr
    show (Except.bind (Jvm.ClassFile.Reader.u1 c pc) _) = _
    rw [u1_at h0]
    show (Except.bind (Except.map _ (Except.bind (Jvm.ClassFile.Reader.u1 c (pc + 1)) _)) _) = _
    rw [u1_at h1]
    show (Except.bind (Except.map _ (Except.bind (Jvm.ClassFile.Reader.u1 c (pc + 1 + 1)) _)) _) = _
    rw [u1_at h2]
    rfl
  unfold decode
  rw [e]
  show Except.ok (_, pc + 3 - pc) = _
  rw [Nat.add_sub_cancel_left]
theorem dq_156 {c : ByteArray} {pc : Nat} {b1 b2 : UInt8} {n : Int} (h : (c.data.toList.drop pc).take 3 = [156, b1, b2]) (hn : (Jvm.ClassFile.Reader.signed 16 (b1.toNat * 256 + b2.toNat)) = n) : decode c pc = .ok (.ifCond .ge n, 3) := by
  subst hn
  have h0 := tk_at h (i := 0) (by decide) rfl
  have h1 := tk_at h (i := 1) (by decide) rfl
  have h2 := tk_at h (i := 2) (by decide) rfl
  rw [Nat.add_zero] at h0
  have e : (Jvm.ClassFile.Decoder.instr pc).runAt c pc = .ok (.ifCond .ge (Jvm.ClassFile.Reader.signed 16 (b1.toNat * 256 + b2.toNat)), pc + 3) := by
    show (Jvm.ClassFile.Decoder.instr pc) c pc = _
    unfold Jvm.ClassFile.Decoder.instr
    show (Except.bind (Jvm.ClassFile.Reader.u1 c pc) _) = _
    rw [u1_at h0]
    show (Except.bind (Except.map _ (Except.bind (Jvm.ClassFile.Reader.u1 c (pc + 1)) _)) _) = _
    rw [u1_at h1]
    show (Except.bind (Except.map _ (Except.bind (Jvm.ClassFile.Reader.u1 c (pc + 1 + 1)) _)) _) = _
    rw [u1_at h2]
    rfl
  unfold decode
  rw [e]
  show Except.ok (_, pc + 3 - pc) = _
  rw [Nat.add_sub_cancel_left]
theorem dq_157 {c : ByteArray} {pc : Nat} {b1 b2 : UInt8} {n : Int} (h : (c.data.toList.drop pc).take 3 = [157, b1, b2]) (hn : (Jvm.ClassFile.Reader.signed 16 (b1.toNat * 256 + b2.toNat)) = n) : decode c pc = .ok (.ifCond .gt n, 3) := by
  subst hn
  have h0 := tk_at h (i := 0) (by decide) rfl
  have h1 := tk_at h (i := 1) (by decide) rfl
  have h2 := tk_at h (i := 2) (by decide) rfl
  rw [Nat.add_zero] at h0
  have e : (Jvm.ClassFile.Decoder.instr pc).runAt c pc = .ok (.ifCond .gt (Jvm.ClassFile.Reader.signed 16 (b1.toNat * 256 + b2.toNat)), pc + 3) := by
    show (Jvm.ClassFile.Decoder.instr pc) c pc = _
    unfold Jvm.ClassFile.Decoder.instr
    show (Except.bind (Jvm.ClassFile.Reader.u1 c pc) _) = _
    rw [u1_at h0]
    show (Except.bind (Except.map _ (Except.bind (Jvm.ClassFile.Reader.u1 c (pc + 1)) _)) _) = _
    rw [u1_at h1]
    show (Except.bind (Except.map _ (Except.bind (Jvm.ClassFile.Reader.u1 c (pc + 1 + 1)) _)) _) = _
    rw [u1_at h2]
    rfl
  unfold decode
  rw [e]
  show Except.ok (_, pc + 3 - pc) = _
  rw [Nat.add_sub_cancel_left]
theorem dq_158 {c : ByteArray} {pc : Nat} {b1 b2 : UInt8} {n : Int} (h : (c.data.toList.drop pc).take 3 = [158, b1, b2]) (hn : (Jvm.ClassFile.Reader.signed 16 (b1.toNat * 256 + b2.toNat)) = n) : decode c pc = .ok (.ifCond .le n, 3) := by
  subst hn
  have h0 := tk_at h (i := 0) (by decide) rfl
  have h1 := tk_at h (i := 1) (by decide) rfl
  have h2 := tk_at h (i := 2) (by decide) rfl
  rw [Nat.add_zero] at h0
  have e : (Jvm.ClassFile.Decoder.instr pc).runAt c pc = .ok (.ifCond .le (Jvm.ClassFile.Reader.signed 16 (b1.toNat * 256 + b2.toNat)), pc + 3) := by
    show (Jvm.ClassFile.Decoder.instr pc) c pc = _
    unfold Jvm.ClassFile.Decoder.instr
    show (Except.bind (Jvm.ClassFile.Reader.u1 c pc) _) = _
    rw [u1_at h0]
    show (Except.bind (Except.map _ (Except.bind (Jvm.ClassFile.Reader.u1 c (pc + 1)) _)) _) = _
    rw [u1_at h1]
    show (Except.bind (Except.map _ (Except.bind (Jvm.ClassFile.Reader.u1 c (pc + 1 + 1)) _)) _) = _
    rw [u1_at h2]
    rfl
  unfold decode
  rw [e]
  show Except.ok (_, pc + 3 - pc) = _
  rw [Nat.add_sub_cancel_left]
theorem dq_155 {c : ByteArray} {pc : Nat} {b1 b2 : UInt8} {n : Int} (h : (c.data.toList.drop pc).take 3 = [155, b1, b2]) (hn : (Jvm.ClassFile.Reader.signed 16 (b1.toNat * 256 + b2.toNat)) = n) : decode c pc = .ok (.ifCond .lt n, 3) := by
  subst hn
  have h0 := tk_at h (i := 0) (by decide) rfl
  have h1 := tk_at h (i := 1) (by decide) rfl
  have h2 := tk_at h (i := 2) (by decide) rfl
  rw [Nat.add_zero] at h0
  have e : (Jvm.ClassFile.Decoder.instr pc).runAt c pc = .ok (.ifCond .lt (Jvm.ClassFile.Reader.signed 16 (b1.toNat * 256 + b2.toNat)), pc + 3) := by
    show (Jvm.ClassFile.Decoder.instr pc) c pc = _
    unfold Jvm.ClassFile.Decoder.instr
    show (Except.bind (Jvm.ClassFile.Reader.u1 c pc) _) = _
    rw [u1_at h0]
    show (Except.bind (Except.map _ (Except.bind (Jvm.ClassFile.Reader.u1 c (pc + 1)) _)) _) = _
    rw [u1_at h1]
    show (Except.bind (Except.map _ (Except.bind (Jvm.ClassFile.Reader.u1 c (pc + 1 + 1)) _)) _) = _
    rw [u1_at h2]
    rfl
  unfold decode
  rw [e]
  show Except.ok (_, pc + 3 - pc) = _
  rw [Nat.add_sub_cancel_left]
theorem dq_154 {c : ByteArray} {pc : Nat} {b1 b2 : UInt8} {n : Int} (h : (c.data.toList.drop pc).take 3 = [154, b1, b2]) (hn : (Jvm.ClassFile.Reader.signed 16 (b1.toNat * 256 + b2.toNat)) = n) : decode c pc = .ok (.ifCond .ne n, 3) := by
  subst hn
  have h0 := tk_at h (i := 0) (by decide) rfl
  have h1 := tk_at h (i := 1) (by decide) rfl
  have h2 := tk_at h (i := 2) (by decide) rfl
  rw [Nat.add_zero] at h0
  have e : (Jvm.ClassFile.Decoder.instr pc).runAt c pc = .ok (.ifCond .ne (Jvm.ClassFile.Reader.signed 16 (b1.toNat * 256 + b2.toNat)), pc + 3) := by
    show (Jvm.ClassFile.Decoder.instr pc) c pc = _
    unfold Jvm.ClassFile.Decoder.instr
    show (Except.bind (Jvm.ClassFile.Reader.u1 c pc) _) = _
    rw [u1_at h0]
    show (Except.bind (Except.map _ (Except.bind (Jvm.ClassFile.Reader.u1 c (pc + 1)) _)) _) = _
    rw [u1_at h1]
    show (Except.bind (Except.map _ (Except.bind (Jvm.ClassFile.Reader.u1 c (pc + 1 + 1)) _)) _) = _
    rw [u1_at h2]
    rfl
  unfold decode
  rw [e]
  show Except.ok (_, pc + 3 - pc) = _
  rw [Nat.add_sub_cancel_left]
theorem dq_159 {c : ByteArray} {pc : Nat} {b1 b2 : UInt8} {n : Int} (h : (c.data.toList.drop pc).take 3 = [159, b1, b2]) (hn : (Jvm.ClassFile.Reader.signed 16 (b1.toNat * 256 + b2.toNat)) = n) : decode c pc = .ok (.if_icmp .eq n, 3) := by
  subst hn
  have h0 := tk_at h (i := 0) (by decide) rfl
  have h1 := tk_at h (i := 1) (by decide) rfl
  have h2 := tk_at h (i := 2) (by decide) rfl
  rw [Nat.add_zero] at h0
  have e : (Jvm.ClassFile.Decoder.instr pc).runAt c pc = .ok (.if_icmp .eq (Jvm.ClassFile.Reader.signed 16 (b1.toNat * 256 + b2.toNat)), pc + 3) := by
    show (Jvm.ClassFile.Decoder.instr pc) c pc = _
    unfold Jvm.ClassFile.Decoder.instr
    show (Except.bind (Jvm.ClassFile.Reader.u1 c pc) _) = _
    rw [u1_at h0]
    show (Except.bind (Except.map _ (Except.bind (Jvm.ClassFile.Reader.u1 c (pc + 1)) _)) _) = _
    rw [u1_at h1]
    show (Except.bind (Except.map _ (Except.bind (Jvm.ClassFile.Reader.u1 c (pc + 1 + 1)) _)) _) = _
    rw [u1_at h2]
    rfl
  unfold decode
  rw [e]
  show Except.ok (_, pc + 3 - pc) = _
  rw [Nat.add_sub_cancel_left]
theorem dq_162 {c : ByteArray} {pc : Nat} {b1 b2 : UInt8} {n : Int} (h : (c.data.toList.drop pc).take 3 = [162, b1, b2]) (hn : (Jvm.ClassFile.Reader.signed 16 (b1.toNat * 256 + b2.toNat)) = n) : decode c pc = .ok (.if_icmp .ge n, 3) := by
  subst hn
  have h0 := tk_at h (i := 0) (by decide) rfl
  have h1 := tk_at h (i := 1) (by decide) rfl
  have h2 := tk_at h (i := 2) (by decide) rfl
  rw [Nat.add_zero] at h0
  have e : (Jvm.ClassFile.Decoder.instr pc).runAt c pc = .ok (.if_icmp .ge (Jvm.ClassFile.Reader.signed 16 (b1.toNat * 256 + b2.toNat)), pc + 3) := by
    show (Jvm.ClassFile.Decoder.instr pc) c pc = _
    unfold Jvm.ClassFile.Decoder.instr
    show (Except.bind (Jvm.ClassFile.Reader.u1 c pc) _) = _
    rw [u1_at h0]
    show (Except.bind (Except.map _ (Except.bind (Jvm.ClassFile.Reader.u1 c (pc + 1)) _)) _) = _
    rw [u1_at h1]
    show (Except.bind (Except.map _ (Except.bind (Jvm.ClassFile.Reader.u1 c (pc + 1 + 1)) _)) _) = _
    rw [u1_at h2]
    rfl
  unfold decode
  rw [e]
  show Except.ok (_, pc + 3 - pc) = _
  rw [Nat.add_sub_cancel_left]
theorem dq_163 {c : ByteArray} {pc : Nat} {b1 b2 : UInt8} {n : Int} (h : (c.data.toList.drop pc).take 3 = [163, b1, b2]) (hn : (Jvm.ClassFile.Reader.signed 16 (b1.toNat * 256 + b2.toNat)) = n) : decode c pc = .ok (.if_icmp .gt n, 3) := by
  subst hn
  have h0 := tk_at h (i := 0) (by decide) rfl
  have h1 := tk_at h (i := 1) (by decide) rfl
  have h2 := tk_at h (i := 2) (by decide) rfl
  rw [Nat.add_zero] at h0
  have e : (Jvm.ClassFile.Decoder.instr pc).runAt c pc = .ok (.if_icmp .gt (Jvm.ClassFile.Reader.signed 16 (b1.toNat * 256 + b2.toNat)), pc + 3) := by
    show (Jvm.ClassFile.Decoder.instr pc) c pc = _
    unfold Jvm.ClassFile.Decoder.instr
    show (Except.bind (Jvm.ClassFile.Reader.u1 c pc) _) = _
    rw [u1_at h0]
    show (Except.bind (Except.map _ (Except.bind (Jvm.ClassFile.Reader.u1 c (pc + 1)) _)) _) = _
    rw [u1_at h1]
    show (Except.bind (Except.map _ (Except.bind (Jvm.ClassFile.Reader.u1 c (pc + 1 + 1)) _)) _) = _
    rw [u1_at h2]
    rfl
  unfold decode
  rw [e]
  show Except.ok (_, pc + 3 - pc) = _
  rw [Nat.add_sub_cancel_left]
theorem dq_164 {c : ByteArray} {pc : Nat} {b1 b2 : UInt8} {n : Int} (h : (c.data.toList.drop pc).take 3 = [164, b1, b2]) (hn : (Jvm.ClassFile.Reader.signed 16 (b1.toNat * 256 + b2.toNat)) = n) : decode c pc = .ok (.if_icmp .le n, 3) := by
  subst hn
  have h0 := tk_at h (i := 0) (by decide) rfl
  have h1 := tk_at h (i := 1) (by decide) rfl
  have h2 := tk_at h (i := 2) (by decide) rfl
  rw [Nat.add_zero] at h0
  have e : (Jvm.ClassFile.Decoder.instr pc).runAt c pc = .ok (.if_icmp .le (Jvm.ClassFile.Reader.signed 16 (b1.toNat * 256 + b2.toNat)), pc + 3) := by
    show (Jvm.ClassFile.Decoder.instr pc) c pc = _
    unfold Jvm.ClassFile.Decoder.instr
    show (Except.bind (Jvm.ClassFile.Reader.u1 c pc) _) = _
    rw [u1_at h0]
    show (Except.bind (Except.map _ (Except.bind (Jvm.ClassFile.Reader.u1 c (pc + 1)) _)) _) = _
    rw [u1_at h1]
    show (Except.bind (Except.map _ (Except.bind (Jvm.ClassFile.Reader.u1 c (pc + 1 + 1)) _)) _) = _
    rw [u1_at h2]
    rfl
  unfold decode
  rw [e]
  show Except.ok (_, pc + 3 - pc) = _
  rw [Nat.add_sub_cancel_left]
theorem dq_161 {c : ByteArray} {pc : Nat} {b1 b2 : UInt8} {n : Int} (h : (c.data.toList.drop pc).take 3 = [161, b1, b2]) (hn : (Jvm.ClassFile.Reader.signed 16 (b1.toNat * 256 + b2.toNat)) = n) : decode c pc = .ok (.if_icmp .lt n, 3) := by
  subst hn
  have h0 := tk_at h (i := 0) (by decide) rfl
  have h1 := tk_at h (i := 1) (by decide) rfl
  have h2 := tk_at h (i := 2) (by decide) rfl
  rw [Nat.add_zero] at h0
  have e : (Jvm.ClassFile.Decoder.instr pc).runAt c pc = .ok (.if_icmp .lt (Jvm.ClassFile.Reader.signed 16 (b1.toNat * 256 + b2.toNat)), pc + 3) := by
    show (Jvm.ClassFile.Decoder.instr pc) c pc = _
    unfold Jvm.ClassFile.Decoder.instr
    show (Except.bind (Jvm.ClassFile.Reader.u1 c pc) _) = _
    rw [u1_at h0]
    show (Except.bind (Except.map _ (Except.bind (Jvm.ClassFile.Reader.u1 c (pc + 1)) _)) _) = _
    rw [u1_at h1]
    show (Except.bind (Except.map _ (Except.bind (Jvm.ClassFile.Reader.u1 c (pc + 1 + 1)) _)) _) = _
    rw [u1_at h2]
    rfl
  unfold decode
  rw [e]
  show Except.ok (_, pc + 3 - pc) = _
  rw [Nat.add_sub_cancel_left]
theorem dq_160 {c : ByteArray} {pc : Nat} {b1 b2 : UInt8} {n : Int} (h : (c.data.toList.drop pc).take 3 = [160, b1, b2]) (hn : (Jvm.ClassFile.Reader.signed 16 (b1.toNat * 256 + b2.toNat)) = n) : decode c pc = .ok (.if_icmp .ne n, 3) := by
  subst hn
  have h0 := tk_at h (i := 0) (by decide) rfl
  have h1 := tk_at h (i := 1) (by decide) rfl
  have h2 := tk_at h (i := 2) (by decide) rfl
  rw [Nat.add_zero] at h0
  have e : (Jvm.ClassFile.Decoder.instr pc).runAt c pc = .ok (.if_icmp .ne (Jvm.ClassFile.Reader.signed 16 (b1.toNat * 256 + b2.toNat)), pc + 3) := by
    show (Jvm.ClassFile.Decoder.instr pc) c pc = _
    unfold Jvm.ClassFile.Decoder.instr
    show (Except.bind (Jvm.ClassFile.Reader.u1 c pc) _) = _
    rw [u1_at h0]
    show (Except.bind (Except.map _ (Except.bind (Jvm.ClassFile.Reader.u1 c (pc + 1)) _)) _) = _
    rw [u1_at h1]
    show (Except.bind (Except.map _ (Except.bind (Jvm.ClassFile.Reader.u1 c (pc + 1 + 1)) _)) _) = _
    rw [u1_at h2]
    rfl
  unfold decode
  rw [e]
  show Except.ok (_, pc + 3 - pc) = _
  rw [Nat.add_sub_cancel_left]
theorem dq_17 {c : ByteArray} {pc : Nat} {b1 b2 : UInt8} {n : Int} (h : (c.data.toList.drop pc).take 3 = [17, b1, b2]) (hn : (Jvm.ClassFile.Reader.signed 16 (b1.toNat * 256 + b2.toNat)) = n) : decode c pc = .ok (.sipush n, 3) := by
  subst hn
  have h0 := tk_at h (i := 0) (by decide) rfl
  have h1 := tk_at h (i := 1) (by decide) rfl
  have h2 := tk_at h (i := 2) (by decide) rfl
  rw [Nat.add_zero] at h0
  have e : (Jvm.ClassFile.Decoder.instr pc).runAt c pc = .ok (.sipush (Jvm.ClassFile.Reader.signed 16 (b1.toNat * 256 + b2.toNat)), pc + 3) := by
    show (Jvm.ClassFile.Decoder.instr pc) c pc = _
    unfold Jvm.ClassFile.Decoder.instr
    show (Except.bind (Jvm.ClassFile.Reader.u1 c pc) _) = _
    rw [u1_at h0]
    show (Except.bind (Except.map _ (Except.bind (Jvm.ClassFile.Reader.u1 c (pc + 1)) _)) _) = _
    rw [u1_at h1]
    show (Except.bind (Except.map _ (Except.bind (Jvm.ClassFile.Reader.u1 c (pc + 1 + 1)) _)) _) = _
    rw [u1_at h2]
    rfl
  unfold decode
  rw [e]
  show Except.ok (_, pc + 3 - pc) = _
  rw [Nat.add_sub_cancel_left]
theorem dq_25 {c : ByteArray} {pc : Nat} {b1 : UInt8} {n : Nat} (h : (c.data.toList.drop pc).take 2 = [25, b1]) (hn : b1.toNat = n) : decode c pc = .ok (.aload n, 2) := by
  subst hn
  have h0 := tk_at h (i := 0) (by decide) rfl
  have h1 := tk_at h (i := 1) (by decide) rfl
  rw [Nat.add_zero] at h0
  have e : (Jvm.ClassFile.Decoder.instr pc).runAt c pc = .ok (.aload b1.toNat, pc + 2) := by
    show (Jvm.ClassFile.Decoder.instr pc) c pc = _
    unfold Jvm.ClassFile.Decoder.instr
    show (Except.bind (Jvm.ClassFile.Reader.u1 c pc) _) = _
    rw [u1_at h0]
    show (Except.bind (Jvm.ClassFile.Reader.u1 c (pc + 1)) _) = _
    rw [u1_at h1]
    rfl
  unfold decode
  rw [e]
  show Except.ok (_, pc + 2 - pc) = _
  rw [Nat.add_sub_cancel_left]
theorem dq_58 {c : ByteArray} {pc : Nat} {b1 : UInt8} {n : Nat} (h : (c.data.toList.drop pc).take 2 = [58, b1]) (hn : b1.toNat = n) : decode c pc = .ok (.astore n, 2) := by
  subst hn
  have h0 := tk_at h (i := 0) (by decide) rfl
  have h1 := tk_at h (i := 1) (by decide) rfl
  rw [Nat.add_zero] at h0
  have e : (Jvm.ClassFile.Decoder.instr pc).runAt c pc = .ok (.astore b1.toNat, pc + 2) := by
    show (Jvm.ClassFile.Decoder.instr pc) c pc = _
    unfold Jvm.ClassFile.Decoder.instr
    show (Except.bind (Jvm.ClassFile.Reader.u1 c pc) _) = _
    rw [u1_at h0]
    show (Except.bind (Jvm.ClassFile.Reader.u1 c (pc + 1)) _) = _
    rw [u1_at h1]
    rfl
  unfold decode
  rw [e]
  show Except.ok (_, pc + 2 - pc) = _
  rw [Nat.add_sub_cancel_left]
theorem dq_21 {c : ByteArray} {pc : Nat} {b1 : UInt8} {n : Nat} (h : (c.data.toList.drop pc).take 2 = [21, b1]) (hn : b1.toNat = n) : decode c pc = .ok (.iload n, 2) := by
  subst hn
  have h0 := tk_at h (i := 0) (by decide) rfl
  have h1 := tk_at h (i := 1) (by decide) rfl
  rw [Nat.add_zero] at h0
  have e : (Jvm.ClassFile.Decoder.instr pc).runAt c pc = .ok (.iload b1.toNat, pc + 2) := by
    show (Jvm.ClassFile.Decoder.instr pc) c pc = _
    unfold Jvm.ClassFile.Decoder.instr
    show (Except.bind (Jvm.ClassFile.Reader.u1 c pc) _) = _
    rw [u1_at h0]
    show (Except.bind (Jvm.ClassFile.Reader.u1 c (pc + 1)) _) = _
    rw [u1_at h1]
    rfl
  unfold decode
  rw [e]
  show Except.ok (_, pc + 2 - pc) = _
  rw [Nat.add_sub_cancel_left]
theorem dq_54 {c : ByteArray} {pc : Nat} {b1 : UInt8} {n : Nat} (h : (c.data.toList.drop pc).take 2 = [54, b1]) (hn : b1.toNat = n) : decode c pc = .ok (.istore n, 2) := by
  subst hn
  have h0 := tk_at h (i := 0) (by decide) rfl
  have h1 := tk_at h (i := 1) (by decide) rfl
  rw [Nat.add_zero] at h0
  have e : (Jvm.ClassFile.Decoder.instr pc).runAt c pc = .ok (.istore b1.toNat, pc + 2) := by
    show (Jvm.ClassFile.Decoder.instr pc) c pc = _
    unfold Jvm.ClassFile.Decoder.instr
    show (Except.bind (Jvm.ClassFile.Reader.u1 c pc) _) = _
    rw [u1_at h0]
    show (Except.bind (Jvm.ClassFile.Reader.u1 c (pc + 1)) _) = _
    rw [u1_at h1]
    rfl
  unfold decode
  rw [e]
  show Except.ok (_, pc + 2 - pc) = _
  rw [Nat.add_sub_cancel_left]
theorem dq_18 {c : ByteArray} {pc : Nat} {b1 : UInt8} {n : Nat} (h : (c.data.toList.drop pc).take 2 = [18, b1]) (hn : b1.toNat = n) : decode c pc = .ok (.ldc n, 2) := by
  subst hn
  have h0 := tk_at h (i := 0) (by decide) rfl
  have h1 := tk_at h (i := 1) (by decide) rfl
  rw [Nat.add_zero] at h0
  have e : (Jvm.ClassFile.Decoder.instr pc).runAt c pc = .ok (.ldc b1.toNat, pc + 2) := by
    show (Jvm.ClassFile.Decoder.instr pc) c pc = _
    unfold Jvm.ClassFile.Decoder.instr
    show (Except.bind (Jvm.ClassFile.Reader.u1 c pc) _) = _
    rw [u1_at h0]
    show (Except.bind (Jvm.ClassFile.Reader.u1 c (pc + 1)) _) = _
    rw [u1_at h1]
    rfl
  unfold decode
  rw [e]
  show Except.ok (_, pc + 2 - pc) = _
  rw [Nat.add_sub_cancel_left]
theorem dq_22 {c : ByteArray} {pc : Nat} {b1 : UInt8} {n : Nat} (h : (c.data.toList.drop pc).take 2 = [22, b1]) (hn : b1.toNat = n) : decode c pc = .ok (.lload n, 2) := by
  subst hn
  have h0 := tk_at h (i := 0) (by decide) rfl
  have h1 := tk_at h (i := 1) (by decide) rfl
  rw [Nat.add_zero] at h0
  have e : (Jvm.ClassFile.Decoder.instr pc).runAt c pc = .ok (.lload b1.toNat, pc + 2) := by
    show (Jvm.ClassFile.Decoder.instr pc) c pc = _
    unfold Jvm.ClassFile.Decoder.instr
    show (Except.bind (Jvm.ClassFile.Reader.u1 c pc) _) = _
    rw [u1_at h0]
    show (Except.bind (Jvm.ClassFile.Reader.u1 c (pc + 1)) _) = _
    rw [u1_at h1]
    rfl
  unfold decode
  rw [e]
  show Except.ok (_, pc + 2 - pc) = _
  rw [Nat.add_sub_cancel_left]
theorem dq_55 {c : ByteArray} {pc : Nat} {b1 : UInt8} {n : Nat} (h : (c.data.toList.drop pc).take 2 = [55, b1]) (hn : b1.toNat = n) : decode c pc = .ok (.lstore n, 2) := by
  subst hn
  have h0 := tk_at h (i := 0) (by decide) rfl
  have h1 := tk_at h (i := 1) (by decide) rfl
  rw [Nat.add_zero] at h0
  have e : (Jvm.ClassFile.Decoder.instr pc).runAt c pc = .ok (.lstore b1.toNat, pc + 2) := by
    show (Jvm.ClassFile.Decoder.instr pc) c pc = _
    unfold Jvm.ClassFile.Decoder.instr
    show (Except.bind (Jvm.ClassFile.Reader.u1 c pc) _) = _
    rw [u1_at h0]
    show (Except.bind (Jvm.ClassFile.Reader.u1 c (pc + 1)) _) = _
    rw [u1_at h1]
    rfl
  unfold decode
  rw [e]
  show Except.ok (_, pc + 2 - pc) = _
  rw [Nat.add_sub_cancel_left]
theorem dq_189 {c : ByteArray} {pc : Nat} {b1 b2 : UInt8} {n : Nat} (h : (c.data.toList.drop pc).take 3 = [189, b1, b2]) (hn : (b1.toNat * 256 + b2.toNat) = n) : decode c pc = .ok (.anewarray n, 3) := by
  subst hn
  have h0 := tk_at h (i := 0) (by decide) rfl
  have h1 := tk_at h (i := 1) (by decide) rfl
  have h2 := tk_at h (i := 2) (by decide) rfl
  rw [Nat.add_zero] at h0
  have e : (Jvm.ClassFile.Decoder.instr pc).runAt c pc = .ok (.anewarray (b1.toNat * 256 + b2.toNat), pc + 3) := by
    show (Jvm.ClassFile.Decoder.instr pc) c pc = _
    unfold Jvm.ClassFile.Decoder.instr
    show (Except.bind (Jvm.ClassFile.Reader.u1 c pc) _) = _
    rw [u1_at h0]
    show (Except.bind (Except.bind (Jvm.ClassFile.Reader.u1 c (pc + 1)) _) _) = _
    rw [u1_at h1]
    show (Except.bind (Except.bind (Jvm.ClassFile.Reader.u1 c (pc + 1 + 1)) _) _) = _
    rw [u1_at h2]
    rfl
  unfold decode
  rw [e]
  show Except.ok (_, pc + 3 - pc) = _
  rw [Nat.add_sub_cancel_left]
theorem dq_180 {c : ByteArray} {pc : Nat} {b1 b2 : UInt8} {n : Nat} (h : (c.data.toList.drop pc).take 3 = [180, b1, b2]) (hn : (b1.toNat * 256 + b2.toNat) = n) : decode c pc = .ok (.getfield n, 3) := by
  subst hn
  have h0 := tk_at h (i := 0) (by decide) rfl
  have h1 := tk_at h (i := 1) (by decide) rfl
  have h2 := tk_at h (i := 2) (by decide) rfl
  rw [Nat.add_zero] at h0
  have e : (Jvm.ClassFile.Decoder.instr pc).runAt c pc = .ok (.getfield (b1.toNat * 256 + b2.toNat), pc + 3) := by
    show (Jvm.ClassFile.Decoder.instr pc) c pc = _
    unfold Jvm.ClassFile.Decoder.instr
    show (Except.bind (Jvm.ClassFile.Reader.u1 c pc) _) = _
    rw [u1_at h0]
    show (Except.bind (Except.bind (Jvm.ClassFile.Reader.u1 c (pc + 1)) _) _) = _
    rw [u1_at h1]
    show (Except.bind (Except.bind (Jvm.ClassFile.Reader.u1 c (pc + 1 + 1)) _) _) = _
    rw [u1_at h2]
    rfl
  unfold decode
  rw [e]
  show Except.ok (_, pc + 3 - pc) = _
  rw [Nat.add_sub_cancel_left]
theorem dq_178 {c : ByteArray} {pc : Nat} {b1 b2 : UInt8} {n : Nat} (h : (c.data.toList.drop pc).take 3 = [178, b1, b2]) (hn : (b1.toNat * 256 + b2.toNat) = n) : decode c pc = .ok (.getstatic n, 3) := by
  subst hn
  have h0 := tk_at h (i := 0) (by decide) rfl
  have h1 := tk_at h (i := 1) (by decide) rfl
  have h2 := tk_at h (i := 2) (by decide) rfl
  rw [Nat.add_zero] at h0
  have e : (Jvm.ClassFile.Decoder.instr pc).runAt c pc = .ok (.getstatic (b1.toNat * 256 + b2.toNat), pc + 3) := by
    show (Jvm.ClassFile.Decoder.instr pc) c pc = _
    unfold Jvm.ClassFile.Decoder.instr
    show (Except.bind (Jvm.ClassFile.Reader.u1 c pc) _) = _
    rw [u1_at h0]
    show (Except.bind (Except.bind (Jvm.ClassFile.Reader.u1 c (pc + 1)) _) _) = _
    rw [u1_at h1]
    show (Except.bind (Except.bind (Jvm.ClassFile.Reader.u1 c (pc + 1 + 1)) _) _) = _
    rw [u1_at h2]
    rfl
  unfold decode
  rw [e]
  show Except.ok (_, pc + 3 - pc) = _
  rw [Nat.add_sub_cancel_left]
theorem dq_183 {c : ByteArray} {pc : Nat} {b1 b2 : UInt8} {n : Nat} (h : (c.data.toList.drop pc).take 3 = [183, b1, b2]) (hn : (b1.toNat * 256 + b2.toNat) = n) : decode c pc = .ok (.invokespecial n, 3) := by
  subst hn
  have h0 := tk_at h (i := 0) (by decide) rfl
  have h1 := tk_at h (i := 1) (by decide) rfl
  have h2 := tk_at h (i := 2) (by decide) rfl
  rw [Nat.add_zero] at h0
  have e : (Jvm.ClassFile.Decoder.instr pc).runAt c pc = .ok (.invokespecial (b1.toNat * 256 + b2.toNat), pc + 3) := by
    show (Jvm.ClassFile.Decoder.instr pc) c pc = _
    unfold Jvm.ClassFile.Decoder.instr
    show (Except.bind (Jvm.ClassFile.Reader.u1 c pc) _) = _
    rw [u1_at h0]
    show (Except.bind (Except.bind (Jvm.ClassFile.Reader.u1 c (pc + 1)) _) _) = _
    rw [u1_at h1]
    show (Except.bind (Except.bind (Jvm.ClassFile.Reader.u1 c (pc + 1 + 1)) _) _) = _
    rw [u1_at h2]
    rfl
  unfold decode
  rw [e]
  show Except.ok (_, pc + 3 - pc) = _
  rw [Nat.add_sub_cancel_left]
theorem dq_184 {c : ByteArray} {pc : Nat} {b1 b2 : UInt8} {n : Nat} (h : (c.data.toList.drop pc).take 3 = [184, b1, b2]) (hn : (b1.toNat * 256 + b2.toNat) = n) : decode c pc = .ok (.invokestatic n, 3) := by
  subst hn
  have h0 := tk_at h (i := 0) (by decide) rfl
  have h1 := tk_at h (i := 1) (by decide) rfl
  have h2 := tk_at h (i := 2) (by decide) rfl
  rw [Nat.add_zero] at h0
  have e : (Jvm.ClassFile.Decoder.instr pc).runAt c pc = .ok (.invokestatic (b1.toNat * 256 + b2.toNat), pc + 3) := by
    show (Jvm.ClassFile.Decoder.instr pc) c pc = _
    unfold Jvm.ClassFile.Decoder.instr
    show (Except.bind (Jvm.ClassFile.Reader.u1 c pc) _) = _
    rw [u1_at h0]
    show (Except.bind (Except.bind (Jvm.ClassFile.Reader.u1 c (pc + 1)) _) _) = _
    rw [u1_at h1]
    show (Except.bind (Except.bind (Jvm.ClassFile.Reader.u1 c (pc + 1 + 1)) _) _) = _
    rw [u1_at h2]
    rfl
  unfold decode
  rw [e]
  show Except.ok (_, pc + 3 - pc) = _
  rw [Nat.add_sub_cancel_left]
theorem dq_182 {c : ByteArray} {pc : Nat} {b1 b2 : UInt8} {n : Nat} (h : (c.data.toList.drop pc).take 3 = [182, b1, b2]) (hn : (b1.toNat * 256 + b2.toNat) = n) : decode c pc = .ok (.invokevirtual n, 3) := by
  subst hn
  have h0 := tk_at h (i := 0) (by decide) rfl
  have h1 := tk_at h (i := 1) (by decide) rfl
  have h2 := tk_at h (i := 2) (by decide) rfl
  rw [Nat.add_zero] at h0
  have e : (Jvm.ClassFile.Decoder.instr pc).runAt c pc = .ok (.invokevirtual (b1.toNat * 256 + b2.toNat), pc + 3) := by
    show (Jvm.ClassFile.Decoder.instr pc) c pc = _
    unfold Jvm.ClassFile.Decoder.instr
    show (Except.bind (Jvm.ClassFile.Reader.u1 c pc) _) = _
    rw [u1_at h0]
    show (Except.bind (Except.bind (Jvm.ClassFile.Reader.u1 c (pc + 1)) _) _) = _
    rw [u1_at h1]
    show (Except.bind (Except.bind (Jvm.ClassFile.Reader.u1 c (pc + 1 + 1)) _) _) = _
    rw [u1_at h2]
    rfl
  unfold decode
  rw [e]
  show Except.ok (_, pc + 3 - pc) = _
  rw [Nat.add_sub_cancel_left]
theorem dq_20 {c : ByteArray} {pc : Nat} {b1 b2 : UInt8} {n : Nat} (h : (c.data.toList.drop pc).take 3 = [20, b1, b2]) (hn : (b1.toNat * 256 + b2.toNat) = n) : decode c pc = .ok (.ldc2_w n, 3) := by
  subst hn
  have h0 := tk_at h (i := 0) (by decide) rfl
  have h1 := tk_at h (i := 1) (by decide) rfl
  have h2 := tk_at h (i := 2) (by decide) rfl
  rw [Nat.add_zero] at h0
  have e : (Jvm.ClassFile.Decoder.instr pc).runAt c pc = .ok (.ldc2_w (b1.toNat * 256 + b2.toNat), pc + 3) := by
    show (Jvm.ClassFile.Decoder.instr pc) c pc = _
    unfold Jvm.ClassFile.Decoder.instr
    show (Except.bind (Jvm.ClassFile.Reader.u1 c pc) _) = _
    rw [u1_at h0]
    show (Except.bind (Except.bind (Jvm.ClassFile.Reader.u1 c (pc + 1)) _) _) = _
    rw [u1_at h1]
    show (Except.bind (Except.bind (Jvm.ClassFile.Reader.u1 c (pc + 1 + 1)) _) _) = _
    rw [u1_at h2]
    rfl
  unfold decode
  rw [e]
  show Except.ok (_, pc + 3 - pc) = _
  rw [Nat.add_sub_cancel_left]
theorem dq_19 {c : ByteArray} {pc : Nat} {b1 b2 : UInt8} {n : Nat} (h : (c.data.toList.drop pc).take 3 = [19, b1, b2]) (hn : (b1.toNat * 256 + b2.toNat) = n) : decode c pc = .ok (.ldc_w n, 3) := by
  subst hn
  have h0 := tk_at h (i := 0) (by decide) rfl
  have h1 := tk_at h (i := 1) (by decide) rfl
  have h2 := tk_at h (i := 2) (by decide) rfl
  rw [Nat.add_zero] at h0
  have e : (Jvm.ClassFile.Decoder.instr pc).runAt c pc = .ok (.ldc_w (b1.toNat * 256 + b2.toNat), pc + 3) := by
    show (Jvm.ClassFile.Decoder.instr pc) c pc = _
    unfold Jvm.ClassFile.Decoder.instr
    show (Except.bind (Jvm.ClassFile.Reader.u1 c pc) _) = _
    rw [u1_at h0]
    show (Except.bind (Except.bind (Jvm.ClassFile.Reader.u1 c (pc + 1)) _) _) = _
    rw [u1_at h1]
    show (Except.bind (Except.bind (Jvm.ClassFile.Reader.u1 c (pc + 1 + 1)) _) _) = _
    rw [u1_at h2]
    rfl
  unfold decode
  rw [e]
  show Except.ok (_, pc + 3 - pc) = _
  rw [Nat.add_sub_cancel_left]
theorem dq_187 {c : ByteArray} {pc : Nat} {b1 b2 : UInt8} {n : Nat} (h : (c.data.toList.drop pc).take 3 = [187, b1, b2]) (hn : (b1.toNat * 256 + b2.toNat) = n) : decode c pc = .ok (.new n, 3) := by
  subst hn
  have h0 := tk_at h (i := 0) (by decide) rfl
  have h1 := tk_at h (i := 1) (by decide) rfl
  have h2 := tk_at h (i := 2) (by decide) rfl
  rw [Nat.add_zero] at h0
  have e : (Jvm.ClassFile.Decoder.instr pc).runAt c pc = .ok (.new (b1.toNat * 256 + b2.toNat), pc + 3) := by
    show (Jvm.ClassFile.Decoder.instr pc) c pc = _
    unfold Jvm.ClassFile.Decoder.instr
    show (Except.bind (Jvm.ClassFile.Reader.u1 c pc) _) = _
    rw [u1_at h0]
    show (Except.bind (Except.bind (Jvm.ClassFile.Reader.u1 c (pc + 1)) _) _) = _
    rw [u1_at h1]
    show (Except.bind (Except.bind (Jvm.ClassFile.Reader.u1 c (pc + 1 + 1)) _) _) = _
    rw [u1_at h2]
    rfl
  unfold decode
  rw [e]
  show Except.ok (_, pc + 3 - pc) = _
  rw [Nat.add_sub_cancel_left]
theorem dq_181 {c : ByteArray} {pc : Nat} {b1 b2 : UInt8} {n : Nat} (h : (c.data.toList.drop pc).take 3 = [181, b1, b2]) (hn : (b1.toNat * 256 + b2.toNat) = n) : decode c pc = .ok (.putfield n, 3) := by
  subst hn
  have h0 := tk_at h (i := 0) (by decide) rfl
  have h1 := tk_at h (i := 1) (by decide) rfl
  have h2 := tk_at h (i := 2) (by decide) rfl
  rw [Nat.add_zero] at h0
  have e : (Jvm.ClassFile.Decoder.instr pc).runAt c pc = .ok (.putfield (b1.toNat * 256 + b2.toNat), pc + 3) := by
    show (Jvm.ClassFile.Decoder.instr pc) c pc = _
    unfold Jvm.ClassFile.Decoder.instr
    show (Except.bind (Jvm.ClassFile.Reader.u1 c pc) _) = _
    rw [u1_at h0]
    show (Except.bind (Except.bind (Jvm.ClassFile.Reader.u1 c (pc + 1)) _) _) = _
    rw [u1_at h1]
    show (Except.bind (Except.bind (Jvm.ClassFile.Reader.u1 c (pc + 1 + 1)) _) _) = _
    rw [u1_at h2]
    rfl
  unfold decode
  rw [e]
  show Except.ok (_, pc + 3 - pc) = _
  rw [Nat.add_sub_cancel_left]
