/-! Levels in any number: six cells each -/
noncomputable def lv6 (cI : ClassId) (h : Nat) (b : Nat → Nat) (v : Nat → Int32) (g : Nat → Nat → Int32) : va_W := [(xo_3_iiiiiiiirrrrr h (v 0) (v 1) (v 2) (v 3) (v 4) (v 5) (v 6) (v 7) (b 0) (b 1) (b 2) (b 3) (b 4)), (b 0, .inl (cI, 6, .inl (g 0))), (b 1, .inl (cI, 6, .inl (g 1))), (b 2, .inl (cI, 6, .inl (g 2))), (b 3, .inl (cI, 6, .inl (g 3))), (b 4, .inl (cI, 6, .inl (g 4)))]
noncomputable def lvs (cI : ClassId) (n : Nat) (ad : Nat → Nat) (bd : Nat → Nat → Nat) (V : Nat → Nat → Int32) (G : Nat → Nat → Nat → Int32) : va_W := (List.range n).flatMap (fun i => lv6 cI (ad i) (bd i) (V i) (G i))
theorem fm_congr {α β : Type} {l : List α} {f g : α → List β} (h : ∀ a ∈ l, f a = g a) : l.flatMap f = l.flatMap g := by
  rw [List.flatMap_def, List.flatMap_def, List.map_congr_left h]
theorem fm_split {β : Type} {n i : Nat} (f : Nat → List β) (hi : i < n) : (List.range n).flatMap f = (List.range i).flatMap f ++ (f i ++ (List.range' (i + 1) (n - i - 1)).flatMap f) := by
  have e1 : List.range n = List.range i ++ (i :: List.range' (i + 1) (n - i - 1)) := by
    rw [List.range_eq_range', List.range_eq_range']
    have e2 : (i :: List.range' (i + 1) (n - i - 1)) = List.range' i (n - i) := by
      rw [show n - i = (n - i - 1) + 1 by omega, List.range'_succ]
      rfl
    rw [e2]
    have e3 := @List.range'_append 0 i (n - i) 1
    rw [show i + (n - i) = n by omega] at e3
    rw [← e3]
    congr 1
    simp
  rw [e1, List.flatMap_append, List.flatMap_cons]
theorem wp_swap {D : va_G} {cl : List vw_C} {H : Heap} {X L1 b L2 : va_W} (h : va_P D cl (X ++ (L1 ++ (b ++ L2))) H) : va_P D cl ((X ++ b) ++ (L1 ++ L2)) H := by
  rw [← List.append_assoc] at h
  have h1 := va_P.swap h
  rw [← List.append_assoc X b L2] at h1
  have h2 := va_P.swap h1
  rw [List.append_assoc] at h2
  exact h2
theorem wp_unswap {D : va_G} {cl : List vw_C} {H : Heap} {X L1 b L2 : va_W} (h : va_P D cl ((X ++ b) ++ (L1 ++ L2)) H) : va_P D cl (X ++ (L1 ++ (b ++ L2))) H := by
  rw [← List.append_assoc (X ++ b)] at h
  have h1 := va_P.swap h
  rw [List.append_assoc X b L2] at h1
  have h2 := va_P.swap h1
  rw [List.append_assoc] at h2
  exact h2
theorem wd_swap {A : Nat → Prop} {X L1 b L2 : va_W} (h : va_D A (X ++ (L1 ++ (b ++ L2)))) : va_D A ((X ++ b) ++ (L1 ++ L2)) := by
  rw [← List.append_assoc] at h
  have h1 := va_D.swap h
  rw [← List.append_assoc X b L2] at h1
  have h2 := va_D.swap h1
  rw [List.append_assoc] at h2
  exact h2
theorem wd_unswap {A : Nat → Prop} {X L1 b L2 : va_W} (h : va_D A ((X ++ b) ++ (L1 ++ L2))) : va_D A (X ++ (L1 ++ (b ++ L2))) := by
  rw [← List.append_assoc (X ++ b)] at h
  have h1 := va_D.swap h
  rw [List.append_assoc X b L2] at h1
  have h2 := va_D.swap h1
  rw [List.append_assoc] at h2
  exact h2
/-- one of many levels, beside the explicit cells; and back again -/
theorem blk_open {D : va_G} {cl : List vw_C} {A : Nat → Prop} {H : Heap} {cI : ClassId} {n : Nat} {ad : Nat → Nat} {bd : Nat → Nat → Nat} {V : Nat → Nat → Int32} {G : Nat → Nat → Nat → Int32} {X : va_W} (hP : va_P D cl (X ++ lvs cI n ad bd V G) H) (hD : va_D A (X ++ lvs cI n ad bd V G)) {i : Nat} (hi : i < n) :
    ∃ pl : va_W, va_P D cl ((X ++ lv6 cI (ad i) (bd i) (V i) (G i)) ++ pl) H ∧ va_D A ((X ++ lv6 cI (ad i) (bd i) (V i) (G i)) ++ pl) ∧
      (∀ (X1 : va_W) (v : Nat → Int32) (g : Nat → Nat → Int32) (H1 : Heap), va_P D cl ((X1 ++ lv6 cI (ad i) (bd i) v g) ++ pl) H1 → va_P D cl (X1 ++ lvs cI n ad bd (va_up V i v) (va_up G i g)) H1) ∧
      (∀ (X1 : va_W) (v : Nat → Int32) (g : Nat → Nat → Int32) (A1 : Nat → Prop), va_D A1 ((X1 ++ lv6 cI (ad i) (bd i) v g) ++ pl) → va_D A1 (X1 ++ lvs cI n ad bd (va_up V i v) (va_up G i g))) := by
  have e0 : lvs cI n ad bd V G = (List.range i).flatMap (fun j => lv6 cI (ad j) (bd j) (V j) (G j)) ++ (lv6 cI (ad i) (bd i) (V i) (G i) ++ (List.range' (i + 1) (n - i - 1)).flatMap (fun j => lv6 cI (ad j) (bd j) (V j) (G j))) := fm_split _ hi
  have e1 : ∀ (v : Nat → Int32) (g : Nat → Nat → Int32), lvs cI n ad bd (va_up V i v) (va_up G i g) = (List.range i).flatMap (fun j => lv6 cI (ad j) (bd j) (V j) (G j)) ++ (lv6 cI (ad i) (bd i) v g ++ (List.range' (i + 1) (n - i - 1)).flatMap (fun j => lv6 cI (ad j) (bd j) (V j) (G j))) := by
    intro v g
    refine (fm_split _ hi).trans ?_
    rw [va_up_self, va_up_self]
    congr 1
    · apply fm_congr
      intro j hj
      have hne : j ≠ i := fun q => by
        rw [List.mem_range] at hj
        omega
      rw [va_up_ne _ _ hne, va_up_ne _ _ hne]
    · congr 1
      apply fm_congr
      intro j hj
      have hne : j ≠ i := fun q => by
        rw [List.mem_range'_1] at hj
        omega
      rw [va_up_ne _ _ hne, va_up_ne _ _ hne]
  rw [e0] at hP hD
  refine ⟨_, wp_swap hP, wd_swap hD, fun X1 v g H1 h => ?_, fun X1 v g A1 h => ?_⟩
  · rw [e1]
    exact wp_unswap h
  · rw [e1]
    exact wd_unswap h
/-- a level that stood as a whole: hour, winds and sounds in their bounds -/
noncomputable def okL (v : Nat → Int32) : Prop := ∃ h w k : Nat, v 4 = nI h ∧ h ≤ 999 ∧ v 6 = nI w ∧ w ≤ 6 ∧ v 7 = nI k ∧ k ≤ 6
theorem okL_up {V : Nat → Nat → Int32} {v : Nat → Int32} {n i : Nat} (h : ∀ j : Nat, j < n → okL (V j)) (hv : okL v) : ∀ j : Nat, j < n → okL (va_up V i v j) := by
  intro j hj
  by_cases q : j = i
  · rw [q, va_up_self]
    exact hv
  · rw [va_up_ne _ _ q]
    exact h j hj
theorem mmin_nat {a b : Nat} (ha : a < 2 ^ 31) (hb : b < 2 ^ 31) : ∃ u : Nat, u ≤ a ∧ u ≤ b ∧ (u = if b < a then b else a) ∧ (if nI b < nI a then nI b else nI a) = nI u := by
  have e := nI_ltI hb ha
  by_cases h : b < a
  · exact ⟨b, by omega, by omega, (if_pos h).symm, if_pos (e.mpr h)⟩
  · exact ⟨a, by omega, by omega, (if_neg h).symm, if_neg (fun q => h (e.mp q))⟩
theorem mmax_nat {a b : Nat} (ha : a < 2 ^ 31) (hb : b < 2 ^ 31) : ∃ u : Nat, a ≤ u ∧ b ≤ u ∧ (u = if a < b then b else a) ∧ (if nI a < nI b then nI b else nI a) = nI u := by
  have e := nI_ltI ha hb
  by_cases h : a < b
  · exact ⟨b, by omega, by omega, (if_pos h).symm, if_pos (e.mpr h)⟩
  · exact ⟨a, by omega, by omega, (if_neg h).symm, if_neg (fun q => h (e.mp q))⟩
/-- places i .. i + n - 1 of a row of at most 40 items -/
noncomputable def hpF (i n : Int32) : Prop := ∃ a b : Nat, i = nI a ∧ n = nI b ∧ a + b ≤ 40
theorem hp_fact {i n len v : Int32} {L : Nat} (h1 : ¬ i < 0) (h2 : ¬ n < 0) (hl : len = nI L) (hL : L ≤ 40) (e : v = len - n) (h3 : ¬ v < i) : hpF i n := by
  obtain ⟨a, ha, rfl⟩ := nI_of h1
  obtain ⟨b, hb, rfl⟩ := nI_of h2
  refine ⟨a, b, rfl, rfl, ?_⟩
  rw [e, hl, Int32.lt_iff_toInt_lt, nI_toInt ha] at h3
  have e1 : (nI L - nI b).toInt = (L : Int) - b := by
    rw [Int32.toInt_sub, nI_toInt (by omega), nI_toInt hb]
    apply Int.bmod_eq_of_le <;> omega
  rw [e1] at h3
  omega
theorem fe_up {fe fn : Nat → Int32} {j n : Nat} (h : ∀ j : Nat, j < 8 → ∃ q : Nat, q ≤ 40 ∧ fe j = nI q) (hj : j < 2 ^ 31) (hn : n ≤ 40) (e : fn = upd fe (nI j).toNatClampNeg (nI n)) : ∀ j : Nat, j < 8 → ∃ q : Nat, q ≤ 40 ∧ fn j = nI q := by
  intro i hi
  rw [e]
  unfold upd
  split
  · exact ⟨n, hn, rfl⟩
  · exact h i hi
/-- the byte at a place of the tape -/
noncomputable def bAt (fb : Nat → Int32) (z : Nat) (i : Int32) : Int32 := if i < 0 ∨ nI z ≤ i then -1 else fb i.toNatClampNeg
theorem in_mono {x : Int32} {n m : Nat} (h : vp_in x n) (hm : n ≤ m) : vp_in x m := by
  rw [vp_in_iff] at h ⊢
  omega
theorem fm_split2 {β : Type} {n i : Nat} (f : Nat → List β) (hi : i + 1 < n) : (List.range n).flatMap f = (List.range i).flatMap f ++ ((f i ++ f (i + 1)) ++ (List.range' (i + 2) (n - i - 2)).flatMap f) := by
  rw [fm_split f (show i < n by omega), show n - i - 1 = (n - i - 2) + 1 by omega, List.range'_succ, List.flatMap_cons, List.append_assoc (f i)]
/-- two levels side by side of many -/
theorem blk_open2 {D : va_G} {cl : List vw_C} {A : Nat → Prop} {H : Heap} {cI : ClassId} {n : Nat} {ad : Nat → Nat} {bd : Nat → Nat → Nat} {V : Nat → Nat → Int32} {G : Nat → Nat → Nat → Int32} {X : va_W} (hP : va_P D cl (X ++ lvs cI n ad bd V G) H) (hD : va_D A (X ++ lvs cI n ad bd V G)) {i : Nat} (hi : i + 1 < n) :
    ∃ pl : va_W, va_P D cl ((X ++ (lv6 cI (ad i) (bd i) (V i) (G i) ++ lv6 cI (ad (i + 1)) (bd (i + 1)) (V (i + 1)) (G (i + 1)))) ++ pl) H ∧ va_D A ((X ++ (lv6 cI (ad i) (bd i) (V i) (G i) ++ lv6 cI (ad (i + 1)) (bd (i + 1)) (V (i + 1)) (G (i + 1)))) ++ pl) ∧
      (∀ (X1 : va_W) (v : Nat → Int32) (g : Nat → Nat → Int32) (H1 : Heap), va_P D cl ((X1 ++ (lv6 cI (ad i) (bd i) (V i) (G i) ++ lv6 cI (ad (i + 1)) (bd (i + 1)) v g)) ++ pl) H1 → va_P D cl (X1 ++ lvs cI n ad bd (va_up V (i + 1) v) (va_up G (i + 1) g)) H1) ∧
      (∀ (X1 : va_W) (v : Nat → Int32) (g : Nat → Nat → Int32) (A1 : Nat → Prop), va_D A1 ((X1 ++ (lv6 cI (ad i) (bd i) (V i) (G i) ++ lv6 cI (ad (i + 1)) (bd (i + 1)) v g)) ++ pl) → va_D A1 (X1 ++ lvs cI n ad bd (va_up V (i + 1) v) (va_up G (i + 1) g))) := by
  have e0 : lvs cI n ad bd V G = (List.range i).flatMap (fun j => lv6 cI (ad j) (bd j) (V j) (G j)) ++ ((lv6 cI (ad i) (bd i) (V i) (G i) ++ lv6 cI (ad (i + 1)) (bd (i + 1)) (V (i + 1)) (G (i + 1))) ++ (List.range' (i + 2) (n - i - 2)).flatMap (fun j => lv6 cI (ad j) (bd j) (V j) (G j))) := fm_split2 _ hi
  have e1 : ∀ (v : Nat → Int32) (g : Nat → Nat → Int32), lvs cI n ad bd (va_up V (i + 1) v) (va_up G (i + 1) g) = (List.range i).flatMap (fun j => lv6 cI (ad j) (bd j) (V j) (G j)) ++ ((lv6 cI (ad i) (bd i) (V i) (G i) ++ lv6 cI (ad (i + 1)) (bd (i + 1)) v g) ++ (List.range' (i + 2) (n - i - 2)).flatMap (fun j => lv6 cI (ad j) (bd j) (V j) (G j))) := by
    intro v g
    refine (fm_split2 _ hi).trans ?_
    rw [va_up_self, va_up_self, va_up_ne V v (show i ≠ i + 1 by omega), va_up_ne G g (show i ≠ i + 1 by omega)]
    congr 1
    · apply fm_congr
      intro j hj
      have hne : j ≠ i + 1 := fun q => by
        rw [List.mem_range] at hj
        omega
      rw [va_up_ne _ _ hne, va_up_ne _ _ hne]
    · congr 1
      apply fm_congr
      intro j hj
      have hne : j ≠ i + 1 := fun q => by
        rw [List.mem_range'_1] at hj
        omega
      rw [va_up_ne _ _ hne, va_up_ne _ _ hne]
  rw [e0] at hP hD
  refine ⟨_, wp_swap hP, wd_swap hD, fun X1 v g H1 h => ?_, fun X1 v g A1 h => ?_⟩
  · rw [e1]
    exact wp_unswap h
  · rw [e1]
    exact wd_unswap h
theorem len_in {n : Int32} (h1 : ¬ n < 1) (h2 : ¬ 8 < n) : vp_in n 9 := by
  rw [vp_in_iff]
  rw [Int32.lt_iff_toInt_lt] at h1 h2
  have e1 : (1 : Int32).toInt = 1 := rfl
  have e2 : (8 : Int32).toInt = 8 := rfl
  rw [e1] at h1
  rw [e2] at h2
  constructor <;> omega
/-! the tables of the class that nobody writes -/
noncomputable def nkF : Nat → Int32 := fun j => [(-1 : Int32), 0, 1, 1, 0, 4].getD j 0
noncomputable def sbF : Nat → Int32 := fun j => [(10 : Int32), 11, 12, 0, 13, 14].getD j 0
noncomputable def mbF : Nat → Int32 := fun j => [(20 : Int32), 21, 24, 22, 23, 0].getD j 0
noncomputable def st1 (C n : String) (f : Nat → Int32) (A : Nat → Prop) (U : State) (H : Heap) : Prop := ∃ (t : Nat), va_Z C n "[I" (.ref t) A U H ∧ va_T .int t 6 (fun j => .int (f j)) A U H
noncomputable def stt (A : Nat → Prop) (U : State) (H : Heap) : Prop := st1 "MillTalk" "NEXT_KIND" nkF A U H ∧ st1 "MillTalk$Asks" "SIZE_BODIES" sbF A U H ∧ st1 "MillTalk$Asks" "MARK_BODIES" mbF A U H ∧ va_Nw (.fieldLinkNest RX1 53 "MillTalk" "NEXT_KIND" "[I" "MillTalk") U
theorem st1_moved {C n : String} {f : Nat → Int32} {A : Nat → Prop} {u U : State} {H : Heap} (h : u.vm.Alike U.vm) (hs : st1 C n f A u H) : st1 C n f A U H := by
  obtain ⟨t, h1, h2⟩ := hs
  exact ⟨t, h1.moved h, h2.moved h⟩
theorem st1_kept {C n : String} {f : Nat → Int32} {A : Nat → Prop} {U : State} {H H1 : Heap} (hs : st1 C n f A U H) (hq : ∀ a : Nat, a < H.size → ¬ A a → H1[a]? = H[a]?) : st1 C n f A U H1 := by
  obtain ⟨t, h1, h2⟩ := hs
  exact ⟨t, h1.kept hq, h2.kept hq⟩
theorem st1_narrow {C n : String} {f : Nat → Int32} {A B : Nat → Prop} {U : State} {H : Heap} (hs : st1 C n f A U H) (hAB : ∀ q, B q → A q) : st1 C n f B U H := by
  obtain ⟨t, h1, h2⟩ := hs
  exact ⟨t, h1.narrow hAB, h2.narrow hAB⟩
theorem stt_warm {A : Nat → Prop} {s U : State} {H : Heap} (hW : s.WarmedH U.vm) (h : stt A s H) : stt A U H := ⟨st1_moved hW.alike h.1, st1_moved hW.alike h.2.1, st1_moved hW.alike h.2.2.1, va_Nw.warmF hW h.2.2.2⟩
theorem stt_same {A : Nat → Prop} {u U : State} {H : Heap} (e : u.vm = U.vm) (h : stt A u H) : stt A U H := by
  have h0 : u.vm.Alike U.vm := by rw [e]; exact Vm.Alike.refl _
  exact ⟨st1_moved h0 h.1, st1_moved h0 h.2.1, st1_moved h0 h.2.2.1, va_Nw.same rfl e h.2.2.2⟩
theorem stt_kept {A : Nat → Prop} {U : State} {H H1 : Heap} (h : stt A U H) (hq : ∀ a : Nat, a < H.size → ¬ A a → H1[a]? = H[a]?) : stt A U H1 := ⟨st1_kept h.1 hq, st1_kept h.2.1 hq, st1_kept h.2.2.1 hq, h.2.2.2⟩
theorem stt_narrow {A B : Nat → Prop} {U : State} {H : Heap} (h : stt A U H) (hAB : ∀ q, B q → A q) : stt B U H := ⟨st1_narrow h.1 hAB, st1_narrow h.2.1 hAB, st1_narrow h.2.2.1 hAB, h.2.2.2⟩
theorem in_6 {x : Int32} (h1 : ¬ x ≤ 0) (h2 : ¬ 6 ≤ x) : vp_in x 6 := by
  rw [vp_in_iff]
  rw [Int32.le_iff_toInt_le] at h1 h2
  have e1 : (0 : Int32).toInt = 0 := rfl
  have e2 : (6 : Int32).toInt = 6 := rfl
  rw [e1] at h1
  rw [e2] at h2
  constructor <;> omega
theorem in_6b {x : Int32} (h1 : ¬ x < 0) (h2 : ¬ 6 ≤ x) : vp_in x 6 := in_of h1 h2 (by decide)
/-! a level closed again: its cells one by one -/
theorem lv6_mk {cI : ClassId} {h : Nat} {b : Nat → Nat} {a0 a1 a2 a3 a4 a5 a6 a7 : Int32} {f0 f1 f2 f3 f4 : Nat → Int32} : lv6 cI h b (fun k => [a0, a1, a2, a3, a4, a5, a6, a7].getD k 0) (fun k => [f0, f1, f2, f3, f4].getD k (fun _ => 0)) = ([(xo_3_iiiiiiiirrrrr h a0 a1 a2 a3 a4 a5 a6 a7 (b 0) (b 1) (b 2) (b 3) (b 4)), (b 0, .inl (cI, 6, .inl f0)), (b 1, .inl (cI, 6, .inl f1)), (b 2, .inl (cI, 6, .inl f2)), (b 3, .inl (cI, 6, .inl f3)), (b 4, .inl (cI, 6, .inl f4))] : va_W) := rfl
theorem blk_opn {D : va_G} {cl : List vw_C} {A : Nat → Prop} {H : Heap} {cI : ClassId} {n : Nat} {ad : Nat → Nat} {bd : Nat → Nat → Nat} {V : Nat → Nat → Int32} {G : Nat → Nat → Nat → Int32} {X : va_W} (hP : va_P D cl (X ++ lvs cI n ad bd V G) H) (hD : va_D A (X ++ lvs cI n ad bd V G)) {i : Nat} (hi : i < n) :
    ∃ pl : va_W, va_P D cl ((X ++ lv6 cI (ad i) (bd i) (V i) (G i)) ++ pl) H ∧ va_D A ((X ++ lv6 cI (ad i) (bd i) (V i) (G i)) ++ pl) ∧
      (∀ (X1 : va_W) (a0 a1 a2 a3 a4 a5 a6 a7 : Int32) (f0 f1 f2 f3 f4 : Nat → Int32) (H1 : Heap), va_P D cl ((X1 ++ ([(ad i, .inr (3, [.int a0, .int a1, .int a2, .int a3, .int a4, .int a5, .int a6, .int a7, .ref (bd i 0), .ref (bd i 1), .ref (bd i 2), .ref (bd i 3), .ref (bd i 4)])), (bd i 0, .inl (cI, 6, .inl f0)), (bd i 1, .inl (cI, 6, .inl f1)), (bd i 2, .inl (cI, 6, .inl f2)), (bd i 3, .inl (cI, 6, .inl f3)), (bd i 4, .inl (cI, 6, .inl f4))] : va_W)) ++ pl) H1 → va_P D cl (X1 ++ lvs cI n ad bd (va_up V i (fun k => [a0, a1, a2, a3, a4, a5, a6, a7].getD k 0)) (va_up G i (fun k => [f0, f1, f2, f3, f4].getD k (fun _ => 0)))) H1) ∧
      (∀ (X1 : va_W) (a0 a1 a2 a3 a4 a5 a6 a7 : Int32) (f0 f1 f2 f3 f4 : Nat → Int32) (A1 : Nat → Prop), va_D A1 ((X1 ++ ([(ad i, .inr (3, [.int a0, .int a1, .int a2, .int a3, .int a4, .int a5, .int a6, .int a7, .ref (bd i 0), .ref (bd i 1), .ref (bd i 2), .ref (bd i 3), .ref (bd i 4)])), (bd i 0, .inl (cI, 6, .inl f0)), (bd i 1, .inl (cI, 6, .inl f1)), (bd i 2, .inl (cI, 6, .inl f2)), (bd i 3, .inl (cI, 6, .inl f3)), (bd i 4, .inl (cI, 6, .inl f4))] : va_W)) ++ pl) → va_D A1 (X1 ++ lvs cI n ad bd (va_up V i (fun k => [a0, a1, a2, a3, a4, a5, a6, a7].getD k 0)) (va_up G i (fun k => [f0, f1, f2, f3, f4].getD k (fun _ => 0))))) := by
  obtain ⟨pl, h1, h2, h3, h4⟩ := blk_open hP hD hi
  exact ⟨pl, h1, h2, fun X1 a0 a1 a2 a3 a4 a5 a6 a7 f0 f1 f2 f3 f4 H1 h => h3 X1 (fun k => [a0, a1, a2, a3, a4, a5, a6, a7].getD k 0) (fun k => [f0, f1, f2, f3, f4].getD k (fun _ => 0)) H1 (by rw [lv6_mk]; exact h), fun X1 a0 a1 a2 a3 a4 a5 a6 a7 f0 f1 f2 f3 f4 A1 h => h4 X1 (fun k => [a0, a1, a2, a3, a4, a5, a6, a7].getD k 0) (fun k => [f0, f1, f2, f3, f4].getD k (fun _ => 0)) A1 (by rw [lv6_mk]; exact h)⟩
theorem blk_opn2 {D : va_G} {cl : List vw_C} {A : Nat → Prop} {H : Heap} {cI : ClassId} {n : Nat} {ad : Nat → Nat} {bd : Nat → Nat → Nat} {V : Nat → Nat → Int32} {G : Nat → Nat → Nat → Int32} {X : va_W} (hP : va_P D cl (X ++ lvs cI n ad bd V G) H) (hD : va_D A (X ++ lvs cI n ad bd V G)) {i : Nat} (hi : i + 1 < n) :
    ∃ pl : va_W, va_P D cl ((X ++ (lv6 cI (ad i) (bd i) (V i) (G i) ++ lv6 cI (ad (i + 1)) (bd (i + 1)) (V (i + 1)) (G (i + 1)))) ++ pl) H ∧ va_D A ((X ++ (lv6 cI (ad i) (bd i) (V i) (G i) ++ lv6 cI (ad (i + 1)) (bd (i + 1)) (V (i + 1)) (G (i + 1)))) ++ pl) ∧
      (∀ (X1 : va_W) (x4 x6 x7 : Int32) (a0 a1 a2 a3 a4 a5 a6 a7 : Int32) (f0 f1 f2 f3 f4 : Nat → Int32) (H1 : Heap), V i 4 = x4 → V i 6 = x6 → V i 7 = x7 → va_P D cl ((X1 ++ ([(ad i, .inr (3, [.int (V i 0), .int (V i 1), .int (V i 2), .int (V i 3), .int x4, .int (V i 5), .int x6, .int x7, .ref (bd i 0), .ref (bd i 1), .ref (bd i 2), .ref (bd i 3), .ref (bd i 4)])), (bd i 0, .inl (cI, 6, .inl (G i 0))), (bd i 1, .inl (cI, 6, .inl (G i 1))), (bd i 2, .inl (cI, 6, .inl (G i 2))), (bd i 3, .inl (cI, 6, .inl (G i 3))), (bd i 4, .inl (cI, 6, .inl (G i 4))), (ad (i + 1), .inr (3, [.int a0, .int a1, .int a2, .int a3, .int a4, .int a5, .int a6, .int a7, .ref (bd (i + 1) 0), .ref (bd (i + 1) 1), .ref (bd (i + 1) 2), .ref (bd (i + 1) 3), .ref (bd (i + 1) 4)])), (bd (i + 1) 0, .inl (cI, 6, .inl f0)), (bd (i + 1) 1, .inl (cI, 6, .inl f1)), (bd (i + 1) 2, .inl (cI, 6, .inl f2)), (bd (i + 1) 3, .inl (cI, 6, .inl f3)), (bd (i + 1) 4, .inl (cI, 6, .inl f4))] : va_W)) ++ pl) H1 → va_P D cl (X1 ++ lvs cI n ad bd (va_up V (i + 1) (fun k => [a0, a1, a2, a3, a4, a5, a6, a7].getD k 0)) (va_up G (i + 1) (fun k => [f0, f1, f2, f3, f4].getD k (fun _ => 0)))) H1) ∧
      (∀ (X1 : va_W) (x4 x6 x7 : Int32) (a0 a1 a2 a3 a4 a5 a6 a7 : Int32) (f0 f1 f2 f3 f4 : Nat → Int32) (A1 : Nat → Prop), V i 4 = x4 → V i 6 = x6 → V i 7 = x7 → va_D A1 ((X1 ++ ([(ad i, .inr (3, [.int (V i 0), .int (V i 1), .int (V i 2), .int (V i 3), .int x4, .int (V i 5), .int x6, .int x7, .ref (bd i 0), .ref (bd i 1), .ref (bd i 2), .ref (bd i 3), .ref (bd i 4)])), (bd i 0, .inl (cI, 6, .inl (G i 0))), (bd i 1, .inl (cI, 6, .inl (G i 1))), (bd i 2, .inl (cI, 6, .inl (G i 2))), (bd i 3, .inl (cI, 6, .inl (G i 3))), (bd i 4, .inl (cI, 6, .inl (G i 4))), (ad (i + 1), .inr (3, [.int a0, .int a1, .int a2, .int a3, .int a4, .int a5, .int a6, .int a7, .ref (bd (i + 1) 0), .ref (bd (i + 1) 1), .ref (bd (i + 1) 2), .ref (bd (i + 1) 3), .ref (bd (i + 1) 4)])), (bd (i + 1) 0, .inl (cI, 6, .inl f0)), (bd (i + 1) 1, .inl (cI, 6, .inl f1)), (bd (i + 1) 2, .inl (cI, 6, .inl f2)), (bd (i + 1) 3, .inl (cI, 6, .inl f3)), (bd (i + 1) 4, .inl (cI, 6, .inl f4))] : va_W)) ++ pl) → va_D A1 (X1 ++ lvs cI n ad bd (va_up V (i + 1) (fun k => [a0, a1, a2, a3, a4, a5, a6, a7].getD k 0)) (va_up G (i + 1) (fun k => [f0, f1, f2, f3, f4].getD k (fun _ => 0))))) := by
  obtain ⟨pl, h1, h2, h3, h4⟩ := blk_open2 hP hD hi
  refine ⟨pl, h1, h2, fun X1 x4 x6 x7 a0 a1 a2 a3 a4 a5 a6 a7 f0 f1 f2 f3 f4 H1 e4 e6 e7 h => ?_, fun X1 x4 x6 x7 a0 a1 a2 a3 a4 a5 a6 a7 f0 f1 f2 f3 f4 A1 e4 e6 e7 h => ?_⟩
  · rw [← e4, ← e6, ← e7] at h
    exact h3 X1 (fun k => [a0, a1, a2, a3, a4, a5, a6, a7].getD k 0) (fun k => [f0, f1, f2, f3, f4].getD k (fun _ => 0)) H1 (by rw [lv6_mk (h := ad (i + 1))]; exact h)
  · rw [← e4, ← e6, ← e7] at h
    exact h4 X1 (fun k => [a0, a1, a2, a3, a4, a5, a6, a7].getD k 0) (fun k => [f0, f1, f2, f3, f4].getD k (fun _ => 0)) A1 (by rw [lv6_mk (h := ad (i + 1))]; exact h)
theorem gt_app {X pl wc : va_W} {is : List Nat} (hs : is.map (fun i => X[i]?) = wc.map some) : is.map (fun i => (X ++ pl)[i]?) = wc.map some := by
  rw [← hs]
  apply List.map_congr_left
  intro i hi
  have h1 : X[i]? ∈ wc.map some := by
    rw [← hs]
    exact List.mem_map_of_mem hi
  obtain ⟨c, -, hc⟩ := List.mem_map.mp h1
  have h2 : i < X.length := by
    rcases Nat.lt_or_ge i X.length with q | q
    · exact q
    · rw [List.getElem?_eq_none q] at hc
      cases hc
  exact List.getElem?_append_left h2
theorem cutX {D : va_G} {cl : List vw_C} {X pl wc : va_W} {H0 H : Heap} {A : Nat → Prop} {locs : List Loc} (hP : va_P D cl (X ++ pl) H) (hD : va_D A (X ++ pl)) (hS : va_S A H0 H locs) (hA : ∀ q, H0.size ≤ q → A q) (is : List Nat) (hn : va_nd is = true) (hs : is.map (fun i => X[i]?) = wc.map some) : va_P D cl wc H ∧ va_D A wc ∧ ∀ q, va_A wc H.size q → A q := cutW hP hD hS hA is hn (gt_app hs)
theorem xl_0_2 {q0 q1 : Prop} {P : Prop} (h : q0 ∧ q1) (k : q0 → q1 → P) : P := by
  obtain ⟨h0, h1⟩ := h
  exact k h0 h1
theorem xl_1_2 {α0 : Type} {q0 q1 : α0 → Prop} {P : Prop} (h : ∃ (a0 : α0), q0 a0 ∧ q1 a0) (k : ∀ (a0 : α0), q0 a0 → q1 a0 → P) : P := by
  obtain ⟨a0, h0, h1⟩ := h
  exact k a0 h0 h1
theorem xl_1_3 {α0 : Type} {q0 q1 q2 : α0 → Prop} {P : Prop} (h : ∃ (a0 : α0), q0 a0 ∧ q1 a0 ∧ q2 a0) (k : ∀ (a0 : α0), q0 a0 → q1 a0 → q2 a0 → P) : P := by
  obtain ⟨a0, h0, h1, h2⟩ := h
  exact k a0 h0 h1 h2
theorem xl_1_4 {α0 : Type} {q0 q1 q2 q3 : α0 → Prop} {P : Prop} (h : ∃ (a0 : α0), q0 a0 ∧ q1 a0 ∧ q2 a0 ∧ q3 a0) (k : ∀ (a0 : α0), q0 a0 → q1 a0 → q2 a0 → q3 a0 → P) : P := by
  obtain ⟨a0, h0, h1, h2, h3⟩ := h
  exact k a0 h0 h1 h2 h3
theorem xl_2_2 {α0 α1 : Type} {q0 q1 : α0 → α1 → Prop} {P : Prop} (h : ∃ (a0 : α0) (a1 : α1), q0 a0 a1 ∧ q1 a0 a1) (k : ∀ (a0 : α0) (a1 : α1), q0 a0 a1 → q1 a0 a1 → P) : P := by
  obtain ⟨a0, a1, h0, h1⟩ := h
  exact k a0 a1 h0 h1
theorem xl_2_4 {α0 α1 : Type} {q0 q1 q2 q3 : α0 → α1 → Prop} {P : Prop} (h : ∃ (a0 : α0) (a1 : α1), q0 a0 a1 ∧ q1 a0 a1 ∧ q2 a0 a1 ∧ q3 a0 a1) (k : ∀ (a0 : α0) (a1 : α1), q0 a0 a1 → q1 a0 a1 → q2 a0 a1 → q3 a0 a1 → P) : P := by
  obtain ⟨a0, a1, h0, h1, h2, h3⟩ := h
  exact k a0 a1 h0 h1 h2 h3
theorem xl_2_5 {α0 α1 : Type} {q0 q1 q2 q3 q4 : α0 → α1 → Prop} {P : Prop} (h : ∃ (a0 : α0) (a1 : α1), q0 a0 a1 ∧ q1 a0 a1 ∧ q2 a0 a1 ∧ q3 a0 a1 ∧ q4 a0 a1) (k : ∀ (a0 : α0) (a1 : α1), q0 a0 a1 → q1 a0 a1 → q2 a0 a1 → q3 a0 a1 → q4 a0 a1 → P) : P := by
  obtain ⟨a0, a1, h0, h1, h2, h3, h4⟩ := h
  exact k a0 a1 h0 h1 h2 h3 h4
theorem xl_2_7 {α0 α1 : Type} {q0 q1 q2 q3 q4 q5 q6 : α0 → α1 → Prop} {P : Prop} (h : ∃ (a0 : α0) (a1 : α1), q0 a0 a1 ∧ q1 a0 a1 ∧ q2 a0 a1 ∧ q3 a0 a1 ∧ q4 a0 a1 ∧ q5 a0 a1 ∧ q6 a0 a1) (k : ∀ (a0 : α0) (a1 : α1), q0 a0 a1 → q1 a0 a1 → q2 a0 a1 → q3 a0 a1 → q4 a0 a1 → q5 a0 a1 → q6 a0 a1 → P) : P := by
  obtain ⟨a0, a1, h0, h1, h2, h3, h4, h5, h6⟩ := h
  exact k a0 a1 h0 h1 h2 h3 h4 h5 h6
theorem xl_3_3 {α0 α1 α2 : Type} {q0 q1 q2 : α0 → α1 → α2 → Prop} {P : Prop} (h : ∃ (a0 : α0) (a1 : α1) (a2 : α2), q0 a0 a1 a2 ∧ q1 a0 a1 a2 ∧ q2 a0 a1 a2) (k : ∀ (a0 : α0) (a1 : α1) (a2 : α2), q0 a0 a1 a2 → q1 a0 a1 a2 → q2 a0 a1 a2 → P) : P := by
  obtain ⟨a0, a1, a2, h0, h1, h2⟩ := h
  exact k a0 a1 a2 h0 h1 h2
theorem xl_3_4 {α0 α1 α2 : Type} {q0 q1 q2 q3 : α0 → α1 → α2 → Prop} {P : Prop} (h : ∃ (a0 : α0) (a1 : α1) (a2 : α2), q0 a0 a1 a2 ∧ q1 a0 a1 a2 ∧ q2 a0 a1 a2 ∧ q3 a0 a1 a2) (k : ∀ (a0 : α0) (a1 : α1) (a2 : α2), q0 a0 a1 a2 → q1 a0 a1 a2 → q2 a0 a1 a2 → q3 a0 a1 a2 → P) : P := by
  obtain ⟨a0, a1, a2, h0, h1, h2, h3⟩ := h
  exact k a0 a1 a2 h0 h1 h2 h3
theorem xl_3_5 {α0 α1 α2 : Type} {q0 q1 q2 q3 q4 : α0 → α1 → α2 → Prop} {P : Prop} (h : ∃ (a0 : α0) (a1 : α1) (a2 : α2), q0 a0 a1 a2 ∧ q1 a0 a1 a2 ∧ q2 a0 a1 a2 ∧ q3 a0 a1 a2 ∧ q4 a0 a1 a2) (k : ∀ (a0 : α0) (a1 : α1) (a2 : α2), q0 a0 a1 a2 → q1 a0 a1 a2 → q2 a0 a1 a2 → q3 a0 a1 a2 → q4 a0 a1 a2 → P) : P := by
  obtain ⟨a0, a1, a2, h0, h1, h2, h3, h4⟩ := h
  exact k a0 a1 a2 h0 h1 h2 h3 h4
theorem xl_4_3 {α0 α1 α2 α3 : Type} {q0 q1 q2 : α0 → α1 → α2 → α3 → Prop} {P : Prop} (h : ∃ (a0 : α0) (a1 : α1) (a2 : α2) (a3 : α3), q0 a0 a1 a2 a3 ∧ q1 a0 a1 a2 a3 ∧ q2 a0 a1 a2 a3) (k : ∀ (a0 : α0) (a1 : α1) (a2 : α2) (a3 : α3), q0 a0 a1 a2 a3 → q1 a0 a1 a2 a3 → q2 a0 a1 a2 a3 → P) : P := by
  obtain ⟨a0, a1, a2, a3, h0, h1, h2⟩ := h
  exact k a0 a1 a2 a3 h0 h1 h2
theorem xl_4_4 {α0 α1 α2 α3 : Type} {q0 q1 q2 q3 : α0 → α1 → α2 → α3 → Prop} {P : Prop} (h : ∃ (a0 : α0) (a1 : α1) (a2 : α2) (a3 : α3), q0 a0 a1 a2 a3 ∧ q1 a0 a1 a2 a3 ∧ q2 a0 a1 a2 a3 ∧ q3 a0 a1 a2 a3) (k : ∀ (a0 : α0) (a1 : α1) (a2 : α2) (a3 : α3), q0 a0 a1 a2 a3 → q1 a0 a1 a2 a3 → q2 a0 a1 a2 a3 → q3 a0 a1 a2 a3 → P) : P := by
  obtain ⟨a0, a1, a2, a3, h0, h1, h2, h3⟩ := h
  exact k a0 a1 a2 a3 h0 h1 h2 h3
theorem xl_4_9 {α0 α1 α2 α3 : Type} {q0 q1 q2 q3 q4 q5 q6 q7 q8 : α0 → α1 → α2 → α3 → Prop} {P : Prop} (h : ∃ (a0 : α0) (a1 : α1) (a2 : α2) (a3 : α3), q0 a0 a1 a2 a3 ∧ q1 a0 a1 a2 a3 ∧ q2 a0 a1 a2 a3 ∧ q3 a0 a1 a2 a3 ∧ q4 a0 a1 a2 a3 ∧ q5 a0 a1 a2 a3 ∧ q6 a0 a1 a2 a3 ∧ q7 a0 a1 a2 a3 ∧ q8 a0 a1 a2 a3) (k : ∀ (a0 : α0) (a1 : α1) (a2 : α2) (a3 : α3), q0 a0 a1 a2 a3 → q1 a0 a1 a2 a3 → q2 a0 a1 a2 a3 → q3 a0 a1 a2 a3 → q4 a0 a1 a2 a3 → q5 a0 a1 a2 a3 → q6 a0 a1 a2 a3 → q7 a0 a1 a2 a3 → q8 a0 a1 a2 a3 → P) : P := by
  obtain ⟨a0, a1, a2, a3, h0, h1, h2, h3, h4, h5, h6, h7, h8⟩ := h
  exact k a0 a1 a2 a3 h0 h1 h2 h3 h4 h5 h6 h7 h8
theorem xl_5_2 {α0 α1 α2 α3 α4 : Type} {q0 q1 : α0 → α1 → α2 → α3 → α4 → Prop} {P : Prop} (h : ∃ (a0 : α0) (a1 : α1) (a2 : α2) (a3 : α3) (a4 : α4), q0 a0 a1 a2 a3 a4 ∧ q1 a0 a1 a2 a3 a4) (k : ∀ (a0 : α0) (a1 : α1) (a2 : α2) (a3 : α3) (a4 : α4), q0 a0 a1 a2 a3 a4 → q1 a0 a1 a2 a3 a4 → P) : P := by
  obtain ⟨a0, a1, a2, a3, a4, h0, h1⟩ := h
  exact k a0 a1 a2 a3 a4 h0 h1
theorem xl_5_3 {α0 α1 α2 α3 α4 : Type} {q0 q1 q2 : α0 → α1 → α2 → α3 → α4 → Prop} {P : Prop} (h : ∃ (a0 : α0) (a1 : α1) (a2 : α2) (a3 : α3) (a4 : α4), q0 a0 a1 a2 a3 a4 ∧ q1 a0 a1 a2 a3 a4 ∧ q2 a0 a1 a2 a3 a4) (k : ∀ (a0 : α0) (a1 : α1) (a2 : α2) (a3 : α3) (a4 : α4), q0 a0 a1 a2 a3 a4 → q1 a0 a1 a2 a3 a4 → q2 a0 a1 a2 a3 a4 → P) : P := by
  obtain ⟨a0, a1, a2, a3, a4, h0, h1, h2⟩ := h
  exact k a0 a1 a2 a3 a4 h0 h1 h2
theorem xl_5_4 {α0 α1 α2 α3 α4 : Type} {q0 q1 q2 q3 : α0 → α1 → α2 → α3 → α4 → Prop} {P : Prop} (h : ∃ (a0 : α0) (a1 : α1) (a2 : α2) (a3 : α3) (a4 : α4), q0 a0 a1 a2 a3 a4 ∧ q1 a0 a1 a2 a3 a4 ∧ q2 a0 a1 a2 a3 a4 ∧ q3 a0 a1 a2 a3 a4) (k : ∀ (a0 : α0) (a1 : α1) (a2 : α2) (a3 : α3) (a4 : α4), q0 a0 a1 a2 a3 a4 → q1 a0 a1 a2 a3 a4 → q2 a0 a1 a2 a3 a4 → q3 a0 a1 a2 a3 a4 → P) : P := by
  obtain ⟨a0, a1, a2, a3, a4, h0, h1, h2, h3⟩ := h
  exact k a0 a1 a2 a3 a4 h0 h1 h2 h3
theorem xl_5_5 {α0 α1 α2 α3 α4 : Type} {q0 q1 q2 q3 q4 : α0 → α1 → α2 → α3 → α4 → Prop} {P : Prop} (h : ∃ (a0 : α0) (a1 : α1) (a2 : α2) (a3 : α3) (a4 : α4), q0 a0 a1 a2 a3 a4 ∧ q1 a0 a1 a2 a3 a4 ∧ q2 a0 a1 a2 a3 a4 ∧ q3 a0 a1 a2 a3 a4 ∧ q4 a0 a1 a2 a3 a4) (k : ∀ (a0 : α0) (a1 : α1) (a2 : α2) (a3 : α3) (a4 : α4), q0 a0 a1 a2 a3 a4 → q1 a0 a1 a2 a3 a4 → q2 a0 a1 a2 a3 a4 → q3 a0 a1 a2 a3 a4 → q4 a0 a1 a2 a3 a4 → P) : P := by
  obtain ⟨a0, a1, a2, a3, a4, h0, h1, h2, h3, h4⟩ := h
  exact k a0 a1 a2 a3 a4 h0 h1 h2 h3 h4
theorem xl_5_7 {α0 α1 α2 α3 α4 : Type} {q0 q1 q2 q3 q4 q5 q6 : α0 → α1 → α2 → α3 → α4 → Prop} {P : Prop} (h : ∃ (a0 : α0) (a1 : α1) (a2 : α2) (a3 : α3) (a4 : α4), q0 a0 a1 a2 a3 a4 ∧ q1 a0 a1 a2 a3 a4 ∧ q2 a0 a1 a2 a3 a4 ∧ q3 a0 a1 a2 a3 a4 ∧ q4 a0 a1 a2 a3 a4 ∧ q5 a0 a1 a2 a3 a4 ∧ q6 a0 a1 a2 a3 a4) (k : ∀ (a0 : α0) (a1 : α1) (a2 : α2) (a3 : α3) (a4 : α4), q0 a0 a1 a2 a3 a4 → q1 a0 a1 a2 a3 a4 → q2 a0 a1 a2 a3 a4 → q3 a0 a1 a2 a3 a4 → q4 a0 a1 a2 a3 a4 → q5 a0 a1 a2 a3 a4 → q6 a0 a1 a2 a3 a4 → P) : P := by
  obtain ⟨a0, a1, a2, a3, a4, h0, h1, h2, h3, h4, h5, h6⟩ := h
  exact k a0 a1 a2 a3 a4 h0 h1 h2 h3 h4 h5 h6
theorem xl_6_4 {α0 α1 α2 α3 α4 α5 : Type} {q0 q1 q2 q3 : α0 → α1 → α2 → α3 → α4 → α5 → Prop} {P : Prop} (h : ∃ (a0 : α0) (a1 : α1) (a2 : α2) (a3 : α3) (a4 : α4) (a5 : α5), q0 a0 a1 a2 a3 a4 a5 ∧ q1 a0 a1 a2 a3 a4 a5 ∧ q2 a0 a1 a2 a3 a4 a5 ∧ q3 a0 a1 a2 a3 a4 a5) (k : ∀ (a0 : α0) (a1 : α1) (a2 : α2) (a3 : α3) (a4 : α4) (a5 : α5), q0 a0 a1 a2 a3 a4 a5 → q1 a0 a1 a2 a3 a4 a5 → q2 a0 a1 a2 a3 a4 a5 → q3 a0 a1 a2 a3 a4 a5 → P) : P := by
  obtain ⟨a0, a1, a2, a3, a4, a5, h0, h1, h2, h3⟩ := h
  exact k a0 a1 a2 a3 a4 a5 h0 h1 h2 h3
theorem xl_6_6 {α0 α1 α2 α3 α4 α5 : Type} {q0 q1 q2 q3 q4 q5 : α0 → α1 → α2 → α3 → α4 → α5 → Prop} {P : Prop} (h : ∃ (a0 : α0) (a1 : α1) (a2 : α2) (a3 : α3) (a4 : α4) (a5 : α5), q0 a0 a1 a2 a3 a4 a5 ∧ q1 a0 a1 a2 a3 a4 a5 ∧ q2 a0 a1 a2 a3 a4 a5 ∧ q3 a0 a1 a2 a3 a4 a5 ∧ q4 a0 a1 a2 a3 a4 a5 ∧ q5 a0 a1 a2 a3 a4 a5) (k : ∀ (a0 : α0) (a1 : α1) (a2 : α2) (a3 : α3) (a4 : α4) (a5 : α5), q0 a0 a1 a2 a3 a4 a5 → q1 a0 a1 a2 a3 a4 a5 → q2 a0 a1 a2 a3 a4 a5 → q3 a0 a1 a2 a3 a4 a5 → q4 a0 a1 a2 a3 a4 a5 → q5 a0 a1 a2 a3 a4 a5 → P) : P := by
  obtain ⟨a0, a1, a2, a3, a4, a5, h0, h1, h2, h3, h4, h5⟩ := h
  exact k a0 a1 a2 a3 a4 a5 h0 h1 h2 h3 h4 h5
theorem xl_6_7 {α0 α1 α2 α3 α4 α5 : Type} {q0 q1 q2 q3 q4 q5 q6 : α0 → α1 → α2 → α3 → α4 → α5 → Prop} {P : Prop} (h : ∃ (a0 : α0) (a1 : α1) (a2 : α2) (a3 : α3) (a4 : α4) (a5 : α5), q0 a0 a1 a2 a3 a4 a5 ∧ q1 a0 a1 a2 a3 a4 a5 ∧ q2 a0 a1 a2 a3 a4 a5 ∧ q3 a0 a1 a2 a3 a4 a5 ∧ q4 a0 a1 a2 a3 a4 a5 ∧ q5 a0 a1 a2 a3 a4 a5 ∧ q6 a0 a1 a2 a3 a4 a5) (k : ∀ (a0 : α0) (a1 : α1) (a2 : α2) (a3 : α3) (a4 : α4) (a5 : α5), q0 a0 a1 a2 a3 a4 a5 → q1 a0 a1 a2 a3 a4 a5 → q2 a0 a1 a2 a3 a4 a5 → q3 a0 a1 a2 a3 a4 a5 → q4 a0 a1 a2 a3 a4 a5 → q5 a0 a1 a2 a3 a4 a5 → q6 a0 a1 a2 a3 a4 a5 → P) : P := by
  obtain ⟨a0, a1, a2, a3, a4, a5, h0, h1, h2, h3, h4, h5, h6⟩ := h
  exact k a0 a1 a2 a3 a4 a5 h0 h1 h2 h3 h4 h5 h6
theorem xl_7_2 {α0 α1 α2 α3 α4 α5 α6 : Type} {q0 q1 : α0 → α1 → α2 → α3 → α4 → α5 → α6 → Prop} {P : Prop} (h : ∃ (a0 : α0) (a1 : α1) (a2 : α2) (a3 : α3) (a4 : α4) (a5 : α5) (a6 : α6), q0 a0 a1 a2 a3 a4 a5 a6 ∧ q1 a0 a1 a2 a3 a4 a5 a6) (k : ∀ (a0 : α0) (a1 : α1) (a2 : α2) (a3 : α3) (a4 : α4) (a5 : α5) (a6 : α6), q0 a0 a1 a2 a3 a4 a5 a6 → q1 a0 a1 a2 a3 a4 a5 a6 → P) : P := by
  obtain ⟨a0, a1, a2, a3, a4, a5, a6, h0, h1⟩ := h
  exact k a0 a1 a2 a3 a4 a5 a6 h0 h1
theorem xl_8_3 {α0 α1 α2 α3 α4 α5 α6 α7 : Type} {q0 q1 q2 : α0 → α1 → α2 → α3 → α4 → α5 → α6 → α7 → Prop} {P : Prop} (h : ∃ (a0 : α0) (a1 : α1) (a2 : α2) (a3 : α3) (a4 : α4) (a5 : α5) (a6 : α6) (a7 : α7), q0 a0 a1 a2 a3 a4 a5 a6 a7 ∧ q1 a0 a1 a2 a3 a4 a5 a6 a7 ∧ q2 a0 a1 a2 a3 a4 a5 a6 a7) (k : ∀ (a0 : α0) (a1 : α1) (a2 : α2) (a3 : α3) (a4 : α4) (a5 : α5) (a6 : α6) (a7 : α7), q0 a0 a1 a2 a3 a4 a5 a6 a7 → q1 a0 a1 a2 a3 a4 a5 a6 a7 → q2 a0 a1 a2 a3 a4 a5 a6 a7 → P) : P := by
  obtain ⟨a0, a1, a2, a3, a4, a5, a6, a7, h0, h1, h2⟩ := h
  exact k a0 a1 a2 a3 a4 a5 a6 a7 h0 h1 h2
theorem xl_8_4 {α0 α1 α2 α3 α4 α5 α6 α7 : Type} {q0 q1 q2 q3 : α0 → α1 → α2 → α3 → α4 → α5 → α6 → α7 → Prop} {P : Prop} (h : ∃ (a0 : α0) (a1 : α1) (a2 : α2) (a3 : α3) (a4 : α4) (a5 : α5) (a6 : α6) (a7 : α7), q0 a0 a1 a2 a3 a4 a5 a6 a7 ∧ q1 a0 a1 a2 a3 a4 a5 a6 a7 ∧ q2 a0 a1 a2 a3 a4 a5 a6 a7 ∧ q3 a0 a1 a2 a3 a4 a5 a6 a7) (k : ∀ (a0 : α0) (a1 : α1) (a2 : α2) (a3 : α3) (a4 : α4) (a5 : α5) (a6 : α6) (a7 : α7), q0 a0 a1 a2 a3 a4 a5 a6 a7 → q1 a0 a1 a2 a3 a4 a5 a6 a7 → q2 a0 a1 a2 a3 a4 a5 a6 a7 → q3 a0 a1 a2 a3 a4 a5 a6 a7 → P) : P := by
  obtain ⟨a0, a1, a2, a3, a4, a5, a6, a7, h0, h1, h2, h3⟩ := h
  exact k a0 a1 a2 a3 a4 a5 a6 a7 h0 h1 h2 h3
theorem xl_8_6 {α0 α1 α2 α3 α4 α5 α6 α7 : Type} {q0 q1 q2 q3 q4 q5 : α0 → α1 → α2 → α3 → α4 → α5 → α6 → α7 → Prop} {P : Prop} (h : ∃ (a0 : α0) (a1 : α1) (a2 : α2) (a3 : α3) (a4 : α4) (a5 : α5) (a6 : α6) (a7 : α7), q0 a0 a1 a2 a3 a4 a5 a6 a7 ∧ q1 a0 a1 a2 a3 a4 a5 a6 a7 ∧ q2 a0 a1 a2 a3 a4 a5 a6 a7 ∧ q3 a0 a1 a2 a3 a4 a5 a6 a7 ∧ q4 a0 a1 a2 a3 a4 a5 a6 a7 ∧ q5 a0 a1 a2 a3 a4 a5 a6 a7) (k : ∀ (a0 : α0) (a1 : α1) (a2 : α2) (a3 : α3) (a4 : α4) (a5 : α5) (a6 : α6) (a7 : α7), q0 a0 a1 a2 a3 a4 a5 a6 a7 → q1 a0 a1 a2 a3 a4 a5 a6 a7 → q2 a0 a1 a2 a3 a4 a5 a6 a7 → q3 a0 a1 a2 a3 a4 a5 a6 a7 → q4 a0 a1 a2 a3 a4 a5 a6 a7 → q5 a0 a1 a2 a3 a4 a5 a6 a7 → P) : P := by
  obtain ⟨a0, a1, a2, a3, a4, a5, a6, a7, h0, h1, h2, h3, h4, h5⟩ := h
  exact k a0 a1 a2 a3 a4 a5 a6 a7 h0 h1 h2 h3 h4 h5
theorem xl_10_6 {α0 α1 α2 α3 α4 α5 α6 α7 α8 α9 : Type} {q0 q1 q2 q3 q4 q5 : α0 → α1 → α2 → α3 → α4 → α5 → α6 → α7 → α8 → α9 → Prop} {P : Prop} (h : ∃ (a0 : α0) (a1 : α1) (a2 : α2) (a3 : α3) (a4 : α4) (a5 : α5) (a6 : α6) (a7 : α7) (a8 : α8) (a9 : α9), q0 a0 a1 a2 a3 a4 a5 a6 a7 a8 a9 ∧ q1 a0 a1 a2 a3 a4 a5 a6 a7 a8 a9 ∧ q2 a0 a1 a2 a3 a4 a5 a6 a7 a8 a9 ∧ q3 a0 a1 a2 a3 a4 a5 a6 a7 a8 a9 ∧ q4 a0 a1 a2 a3 a4 a5 a6 a7 a8 a9 ∧ q5 a0 a1 a2 a3 a4 a5 a6 a7 a8 a9) (k : ∀ (a0 : α0) (a1 : α1) (a2 : α2) (a3 : α3) (a4 : α4) (a5 : α5) (a6 : α6) (a7 : α7) (a8 : α8) (a9 : α9), q0 a0 a1 a2 a3 a4 a5 a6 a7 a8 a9 → q1 a0 a1 a2 a3 a4 a5 a6 a7 a8 a9 → q2 a0 a1 a2 a3 a4 a5 a6 a7 a8 a9 → q3 a0 a1 a2 a3 a4 a5 a6 a7 a8 a9 → q4 a0 a1 a2 a3 a4 a5 a6 a7 a8 a9 → q5 a0 a1 a2 a3 a4 a5 a6 a7 a8 a9 → P) : P := by
  obtain ⟨a0, a1, a2, a3, a4, a5, a6, a7, a8, a9, h0, h1, h2, h3, h4, h5⟩ := h
  exact k a0 a1 a2 a3 a4 a5 a6 a7 a8 a9 h0 h1 h2 h3 h4 h5
theorem xl_12_2 {α0 α1 α2 α3 α4 α5 α6 α7 α8 α9 α10 α11 : Type} {q0 q1 : α0 → α1 → α2 → α3 → α4 → α5 → α6 → α7 → α8 → α9 → α10 → α11 → Prop} {P : Prop} (h : ∃ (a0 : α0) (a1 : α1) (a2 : α2) (a3 : α3) (a4 : α4) (a5 : α5) (a6 : α6) (a7 : α7) (a8 : α8) (a9 : α9) (a10 : α10) (a11 : α11), q0 a0 a1 a2 a3 a4 a5 a6 a7 a8 a9 a10 a11 ∧ q1 a0 a1 a2 a3 a4 a5 a6 a7 a8 a9 a10 a11) (k : ∀ (a0 : α0) (a1 : α1) (a2 : α2) (a3 : α3) (a4 : α4) (a5 : α5) (a6 : α6) (a7 : α7) (a8 : α8) (a9 : α9) (a10 : α10) (a11 : α11), q0 a0 a1 a2 a3 a4 a5 a6 a7 a8 a9 a10 a11 → q1 a0 a1 a2 a3 a4 a5 a6 a7 a8 a9 a10 a11 → P) : P := by
  obtain ⟨a0, a1, a2, a3, a4, a5, a6, a7, a8, a9, a10, a11, h0, h1⟩ := h
  exact k a0 a1 a2 a3 a4 a5 a6 a7 a8 a9 a10 a11 h0 h1
theorem xl_13_2 {α0 α1 α2 α3 α4 α5 α6 α7 α8 α9 α10 α11 α12 : Type} {q0 q1 : α0 → α1 → α2 → α3 → α4 → α5 → α6 → α7 → α8 → α9 → α10 → α11 → α12 → Prop} {P : Prop} (h : ∃ (a0 : α0) (a1 : α1) (a2 : α2) (a3 : α3) (a4 : α4) (a5 : α5) (a6 : α6) (a7 : α7) (a8 : α8) (a9 : α9) (a10 : α10) (a11 : α11) (a12 : α12), q0 a0 a1 a2 a3 a4 a5 a6 a7 a8 a9 a10 a11 a12 ∧ q1 a0 a1 a2 a3 a4 a5 a6 a7 a8 a9 a10 a11 a12) (k : ∀ (a0 : α0) (a1 : α1) (a2 : α2) (a3 : α3) (a4 : α4) (a5 : α5) (a6 : α6) (a7 : α7) (a8 : α8) (a9 : α9) (a10 : α10) (a11 : α11) (a12 : α12), q0 a0 a1 a2 a3 a4 a5 a6 a7 a8 a9 a10 a11 a12 → q1 a0 a1 a2 a3 a4 a5 a6 a7 a8 a9 a10 a11 a12 → P) : P := by
  obtain ⟨a0, a1, a2, a3, a4, a5, a6, a7, a8, a9, a10, a11, a12, h0, h1⟩ := h
  exact k a0 a1 a2 a3 a4 a5 a6 a7 a8 a9 a10 a11 a12 h0 h1
theorem xl_13_9 {α0 α1 α2 α3 α4 α5 α6 α7 α8 α9 α10 α11 α12 : Type} {q0 q1 q2 q3 q4 q5 q6 q7 q8 : α0 → α1 → α2 → α3 → α4 → α5 → α6 → α7 → α8 → α9 → α10 → α11 → α12 → Prop} {P : Prop} (h : ∃ (a0 : α0) (a1 : α1) (a2 : α2) (a3 : α3) (a4 : α4) (a5 : α5) (a6 : α6) (a7 : α7) (a8 : α8) (a9 : α9) (a10 : α10) (a11 : α11) (a12 : α12), q0 a0 a1 a2 a3 a4 a5 a6 a7 a8 a9 a10 a11 a12 ∧ q1 a0 a1 a2 a3 a4 a5 a6 a7 a8 a9 a10 a11 a12 ∧ q2 a0 a1 a2 a3 a4 a5 a6 a7 a8 a9 a10 a11 a12 ∧ q3 a0 a1 a2 a3 a4 a5 a6 a7 a8 a9 a10 a11 a12 ∧ q4 a0 a1 a2 a3 a4 a5 a6 a7 a8 a9 a10 a11 a12 ∧ q5 a0 a1 a2 a3 a4 a5 a6 a7 a8 a9 a10 a11 a12 ∧ q6 a0 a1 a2 a3 a4 a5 a6 a7 a8 a9 a10 a11 a12 ∧ q7 a0 a1 a2 a3 a4 a5 a6 a7 a8 a9 a10 a11 a12 ∧ q8 a0 a1 a2 a3 a4 a5 a6 a7 a8 a9 a10 a11 a12) (k : ∀ (a0 : α0) (a1 : α1) (a2 : α2) (a3 : α3) (a4 : α4) (a5 : α5) (a6 : α6) (a7 : α7) (a8 : α8) (a9 : α9) (a10 : α10) (a11 : α11) (a12 : α12), q0 a0 a1 a2 a3 a4 a5 a6 a7 a8 a9 a10 a11 a12 → q1 a0 a1 a2 a3 a4 a5 a6 a7 a8 a9 a10 a11 a12 → q2 a0 a1 a2 a3 a4 a5 a6 a7 a8 a9 a10 a11 a12 → q3 a0 a1 a2 a3 a4 a5 a6 a7 a8 a9 a10 a11 a12 → q4 a0 a1 a2 a3 a4 a5 a6 a7 a8 a9 a10 a11 a12 → q5 a0 a1 a2 a3 a4 a5 a6 a7 a8 a9 a10 a11 a12 → q6 a0 a1 a2 a3 a4 a5 a6 a7 a8 a9 a10 a11 a12 → q7 a0 a1 a2 a3 a4 a5 a6 a7 a8 a9 a10 a11 a12 → q8 a0 a1 a2 a3 a4 a5 a6 a7 a8 a9 a10 a11 a12 → P) : P := by
  obtain ⟨a0, a1, a2, a3, a4, a5, a6, a7, a8, a9, a10, a11, a12, h0, h1, h2, h3, h4, h5, h6, h7, h8⟩ := h
  exact k a0 a1 a2 a3 a4 a5 a6 a7 a8 a9 a10 a11 a12 h0 h1 h2 h3 h4 h5 h6 h7 h8
theorem xl_15_2 {α0 α1 α2 α3 α4 α5 α6 α7 α8 α9 α10 α11 α12 α13 α14 : Type} {q0 q1 : α0 → α1 → α2 → α3 → α4 → α5 → α6 → α7 → α8 → α9 → α10 → α11 → α12 → α13 → α14 → Prop} {P : Prop} (h : ∃ (a0 : α0) (a1 : α1) (a2 : α2) (a3 : α3) (a4 : α4) (a5 : α5) (a6 : α6) (a7 : α7) (a8 : α8) (a9 : α9) (a10 : α10) (a11 : α11) (a12 : α12) (a13 : α13) (a14 : α14), q0 a0 a1 a2 a3 a4 a5 a6 a7 a8 a9 a10 a11 a12 a13 a14 ∧ q1 a0 a1 a2 a3 a4 a5 a6 a7 a8 a9 a10 a11 a12 a13 a14) (k : ∀ (a0 : α0) (a1 : α1) (a2 : α2) (a3 : α3) (a4 : α4) (a5 : α5) (a6 : α6) (a7 : α7) (a8 : α8) (a9 : α9) (a10 : α10) (a11 : α11) (a12 : α12) (a13 : α13) (a14 : α14), q0 a0 a1 a2 a3 a4 a5 a6 a7 a8 a9 a10 a11 a12 a13 a14 → q1 a0 a1 a2 a3 a4 a5 a6 a7 a8 a9 a10 a11 a12 a13 a14 → P) : P := by
  obtain ⟨a0, a1, a2, a3, a4, a5, a6, a7, a8, a9, a10, a11, a12, a13, a14, h0, h1⟩ := h
  exact k a0 a1 a2 a3 a4 a5 a6 a7 a8 a9 a10 a11 a12 a13 a14 h0 h1
theorem xl_15_4 {α0 α1 α2 α3 α4 α5 α6 α7 α8 α9 α10 α11 α12 α13 α14 : Type} {q0 q1 q2 q3 : α0 → α1 → α2 → α3 → α4 → α5 → α6 → α7 → α8 → α9 → α10 → α11 → α12 → α13 → α14 → Prop} {P : Prop} (h : ∃ (a0 : α0) (a1 : α1) (a2 : α2) (a3 : α3) (a4 : α4) (a5 : α5) (a6 : α6) (a7 : α7) (a8 : α8) (a9 : α9) (a10 : α10) (a11 : α11) (a12 : α12) (a13 : α13) (a14 : α14), q0 a0 a1 a2 a3 a4 a5 a6 a7 a8 a9 a10 a11 a12 a13 a14 ∧ q1 a0 a1 a2 a3 a4 a5 a6 a7 a8 a9 a10 a11 a12 a13 a14 ∧ q2 a0 a1 a2 a3 a4 a5 a6 a7 a8 a9 a10 a11 a12 a13 a14 ∧ q3 a0 a1 a2 a3 a4 a5 a6 a7 a8 a9 a10 a11 a12 a13 a14) (k : ∀ (a0 : α0) (a1 : α1) (a2 : α2) (a3 : α3) (a4 : α4) (a5 : α5) (a6 : α6) (a7 : α7) (a8 : α8) (a9 : α9) (a10 : α10) (a11 : α11) (a12 : α12) (a13 : α13) (a14 : α14), q0 a0 a1 a2 a3 a4 a5 a6 a7 a8 a9 a10 a11 a12 a13 a14 → q1 a0 a1 a2 a3 a4 a5 a6 a7 a8 a9 a10 a11 a12 a13 a14 → q2 a0 a1 a2 a3 a4 a5 a6 a7 a8 a9 a10 a11 a12 a13 a14 → q3 a0 a1 a2 a3 a4 a5 a6 a7 a8 a9 a10 a11 a12 a13 a14 → P) : P := by
  obtain ⟨a0, a1, a2, a3, a4, a5, a6, a7, a8, a9, a10, a11, a12, a13, a14, h0, h1, h2, h3⟩ := h
  exact k a0 a1 a2 a3 a4 a5 a6 a7 a8 a9 a10 a11 a12 a13 a14 h0 h1 h2 h3
theorem xl_17_11 {α0 α1 α2 α3 α4 α5 α6 α7 α8 α9 α10 α11 α12 α13 α14 α15 α16 : Type} {q0 q1 q2 q3 q4 q5 q6 q7 q8 q9 q10 : α0 → α1 → α2 → α3 → α4 → α5 → α6 → α7 → α8 → α9 → α10 → α11 → α12 → α13 → α14 → α15 → α16 → Prop} {P : Prop} (h : ∃ (a0 : α0) (a1 : α1) (a2 : α2) (a3 : α3) (a4 : α4) (a5 : α5) (a6 : α6) (a7 : α7) (a8 : α8) (a9 : α9) (a10 : α10) (a11 : α11) (a12 : α12) (a13 : α13) (a14 : α14) (a15 : α15) (a16 : α16), q0 a0 a1 a2 a3 a4 a5 a6 a7 a8 a9 a10 a11 a12 a13 a14 a15 a16 ∧ q1 a0 a1 a2 a3 a4 a5 a6 a7 a8 a9 a10 a11 a12 a13 a14 a15 a16 ∧ q2 a0 a1 a2 a3 a4 a5 a6 a7 a8 a9 a10 a11 a12 a13 a14 a15 a16 ∧ q3 a0 a1 a2 a3 a4 a5 a6 a7 a8 a9 a10 a11 a12 a13 a14 a15 a16 ∧ q4 a0 a1 a2 a3 a4 a5 a6 a7 a8 a9 a10 a11 a12 a13 a14 a15 a16 ∧ q5 a0 a1 a2 a3 a4 a5 a6 a7 a8 a9 a10 a11 a12 a13 a14 a15 a16 ∧ q6 a0 a1 a2 a3 a4 a5 a6 a7 a8 a9 a10 a11 a12 a13 a14 a15 a16 ∧ q7 a0 a1 a2 a3 a4 a5 a6 a7 a8 a9 a10 a11 a12 a13 a14 a15 a16 ∧ q8 a0 a1 a2 a3 a4 a5 a6 a7 a8 a9 a10 a11 a12 a13 a14 a15 a16 ∧ q9 a0 a1 a2 a3 a4 a5 a6 a7 a8 a9 a10 a11 a12 a13 a14 a15 a16 ∧ q10 a0 a1 a2 a3 a4 a5 a6 a7 a8 a9 a10 a11 a12 a13 a14 a15 a16) (k : ∀ (a0 : α0) (a1 : α1) (a2 : α2) (a3 : α3) (a4 : α4) (a5 : α5) (a6 : α6) (a7 : α7) (a8 : α8) (a9 : α9) (a10 : α10) (a11 : α11) (a12 : α12) (a13 : α13) (a14 : α14) (a15 : α15) (a16 : α16), q0 a0 a1 a2 a3 a4 a5 a6 a7 a8 a9 a10 a11 a12 a13 a14 a15 a16 → q1 a0 a1 a2 a3 a4 a5 a6 a7 a8 a9 a10 a11 a12 a13 a14 a15 a16 → q2 a0 a1 a2 a3 a4 a5 a6 a7 a8 a9 a10 a11 a12 a13 a14 a15 a16 → q3 a0 a1 a2 a3 a4 a5 a6 a7 a8 a9 a10 a11 a12 a13 a14 a15 a16 → q4 a0 a1 a2 a3 a4 a5 a6 a7 a8 a9 a10 a11 a12 a13 a14 a15 a16 → q5 a0 a1 a2 a3 a4 a5 a6 a7 a8 a9 a10 a11 a12 a13 a14 a15 a16 → q6 a0 a1 a2 a3 a4 a5 a6 a7 a8 a9 a10 a11 a12 a13 a14 a15 a16 → q7 a0 a1 a2 a3 a4 a5 a6 a7 a8 a9 a10 a11 a12 a13 a14 a15 a16 → q8 a0 a1 a2 a3 a4 a5 a6 a7 a8 a9 a10 a11 a12 a13 a14 a15 a16 → q9 a0 a1 a2 a3 a4 a5 a6 a7 a8 a9 a10 a11 a12 a13 a14 a15 a16 → q10 a0 a1 a2 a3 a4 a5 a6 a7 a8 a9 a10 a11 a12 a13 a14 a15 a16 → P) : P := by
  obtain ⟨a0, a1, a2, a3, a4, a5, a6, a7, a8, a9, a10, a11, a12, a13, a14, a15, a16, h0, h1, h2, h3, h4, h5, h6, h7, h8, h9, h10⟩ := h
  exact k a0 a1 a2 a3 a4 a5 a6 a7 a8 a9 a10 a11 a12 a13 a14 a15 a16 h0 h1 h2 h3 h4 h5 h6 h7 h8 h9 h10
theorem xl_27_2 {α0 α1 α2 α3 α4 α5 α6 α7 α8 α9 α10 α11 α12 α13 α14 α15 α16 α17 α18 α19 α20 α21 α22 α23 α24 α25 α26 : Type} {q0 q1 : α0 → α1 → α2 → α3 → α4 → α5 → α6 → α7 → α8 → α9 → α10 → α11 → α12 → α13 → α14 → α15 → α16 → α17 → α18 → α19 → α20 → α21 → α22 → α23 → α24 → α25 → α26 → Prop} {P : Prop} (h : ∃ (a0 : α0) (a1 : α1) (a2 : α2) (a3 : α3) (a4 : α4) (a5 : α5) (a6 : α6) (a7 : α7) (a8 : α8) (a9 : α9) (a10 : α10) (a11 : α11) (a12 : α12) (a13 : α13) (a14 : α14) (a15 : α15) (a16 : α16) (a17 : α17) (a18 : α18) (a19 : α19) (a20 : α20) (a21 : α21) (a22 : α22) (a23 : α23) (a24 : α24) (a25 : α25) (a26 : α26), q0 a0 a1 a2 a3 a4 a5 a6 a7 a8 a9 a10 a11 a12 a13 a14 a15 a16 a17 a18 a19 a20 a21 a22 a23 a24 a25 a26 ∧ q1 a0 a1 a2 a3 a4 a5 a6 a7 a8 a9 a10 a11 a12 a13 a14 a15 a16 a17 a18 a19 a20 a21 a22 a23 a24 a25 a26) (k : ∀ (a0 : α0) (a1 : α1) (a2 : α2) (a3 : α3) (a4 : α4) (a5 : α5) (a6 : α6) (a7 : α7) (a8 : α8) (a9 : α9) (a10 : α10) (a11 : α11) (a12 : α12) (a13 : α13) (a14 : α14) (a15 : α15) (a16 : α16) (a17 : α17) (a18 : α18) (a19 : α19) (a20 : α20) (a21 : α21) (a22 : α22) (a23 : α23) (a24 : α24) (a25 : α25) (a26 : α26), q0 a0 a1 a2 a3 a4 a5 a6 a7 a8 a9 a10 a11 a12 a13 a14 a15 a16 a17 a18 a19 a20 a21 a22 a23 a24 a25 a26 → q1 a0 a1 a2 a3 a4 a5 a6 a7 a8 a9 a10 a11 a12 a13 a14 a15 a16 a17 a18 a19 a20 a21 a22 a23 a24 a25 a26 → P) : P := by
  obtain ⟨a0, a1, a2, a3, a4, a5, a6, a7, a8, a9, a10, a11, a12, a13, a14, a15, a16, a17, a18, a19, a20, a21, a22, a23, a24, a25, a26, h0, h1⟩ := h
  exact k a0 a1 a2 a3 a4 a5 a6 a7 a8 a9 a10 a11 a12 a13 a14 a15 a16 a17 a18 a19 a20 a21 a22 a23 a24 a25 a26 h0 h1
theorem u1_at {c : ByteArray} {p : Nat} {b : UInt8} (h : c.data.toList[p]? = some b) : (Jvm.ClassFile.Reader.u1 (ε := Jvm.ClassFile.DecodeError)) c p = .ok (b.toNat, p + 1) := by
  obtain ⟨h1, h2⟩ := List.getElem?_eq_some_iff.mp h
  have h3 : p < c.size := by rw [Array.length_toList] at h1; exact h1
  have h4 : c[p] = b := by rw [← h2]; exact (Array.getElem_toList _).symm
  unfold Jvm.ClassFile.Reader.u1
  simp only [bind, ReaderT.bind, StateT.bind, MonadReader.read, readThe, MonadReaderOf.read, ReaderT.read, MonadState.get, getThe, MonadStateOf.get, StateT.get, liftM, monadLift, MonadLift.monadLift, Except.bind, Pure.pure, Except.pure, StateT.pure, ReaderT.pure, dif_pos h3, MonadStateOf.set, MonadState.set, StateT.set, h4]
theorem tk_at {l bs : List UInt8} {p n : Nat} (h : (l.drop p).take n = bs) {i : Nat} {b : UInt8} (hi : i < n) (hb : bs[i]? = some b) : l[p + i]? = some b := by
  rw [← h, List.getElem?_take, if_pos hi, List.getElem?_drop] at hb
  exact hb
theorem dq_50 {c : ByteArray} {pc : Nat} (h0 : c.data.toList[pc]? = some 50) : decode c pc = .ok (.aaload, 1) := by
  have e : (Jvm.ClassFile.Decoder.instr pc).runAt c pc = .ok (.aaload, pc + 1) := by
    show (Jvm.ClassFile.Decoder.instr pc) c pc = _
    unfold Jvm.ClassFile.Decoder.instr
    show (Except.bind (Jvm.ClassFile.Reader.u1 c pc) _) = _
    rw [u1_at h0]
    rfl
  unfold decode
  rw [e]
  show Except.ok (_, pc + 1 - pc) = _
  rw [Nat.add_sub_cancel_left]
theorem dq_83 {c : ByteArray} {pc : Nat} (h0 : c.data.toList[pc]? = some 83) : decode c pc = .ok (.aastore, 1) := by
  have e : (Jvm.ClassFile.Decoder.instr pc).runAt c pc = .ok (.aastore, pc + 1) := by
    show (Jvm.ClassFile.Decoder.instr pc) c pc = _
    unfold Jvm.ClassFile.Decoder.instr
    show (Except.bind (Jvm.ClassFile.Reader.u1 c pc) _) = _
    rw [u1_at h0]
    rfl
  unfold decode
  rw [e]
  show Except.ok (_, pc + 1 - pc) = _
  rw [Nat.add_sub_cancel_left]
theorem dq_42 {c : ByteArray} {pc : Nat} (h0 : c.data.toList[pc]? = some 42) : decode c pc = .ok (.aload_n 0, 1) := by
  have e : (Jvm.ClassFile.Decoder.instr pc).runAt c pc = .ok (.aload_n 0, pc + 1) := by
    show (Jvm.ClassFile.Decoder.instr pc) c pc = _
    unfold Jvm.ClassFile.Decoder.instr
    show (Except.bind (Jvm.ClassFile.Reader.u1 c pc) _) = _
    rw [u1_at h0]
    rfl
  unfold decode
  rw [e]
  show Except.ok (_, pc + 1 - pc) = _
  rw [Nat.add_sub_cancel_left]
theorem dq_43 {c : ByteArray} {pc : Nat} (h0 : c.data.toList[pc]? = some 43) : decode c pc = .ok (.aload_n 1, 1) := by
  have e : (Jvm.ClassFile.Decoder.instr pc).runAt c pc = .ok (.aload_n 1, pc + 1) := by
    show (Jvm.ClassFile.Decoder.instr pc) c pc = _
    unfold Jvm.ClassFile.Decoder.instr
    show (Except.bind (Jvm.ClassFile.Reader.u1 c pc) _) = _
    rw [u1_at h0]
    rfl
  unfold decode
  rw [e]
  show Except.ok (_, pc + 1 - pc) = _
  rw [Nat.add_sub_cancel_left]
theorem dq_44 {c : ByteArray} {pc : Nat} (h0 : c.data.toList[pc]? = some 44) : decode c pc = .ok (.aload_n 2, 1) := by
  have e : (Jvm.ClassFile.Decoder.instr pc).runAt c pc = .ok (.aload_n 2, pc + 1) := by
    show (Jvm.ClassFile.Decoder.instr pc) c pc = _
    unfold Jvm.ClassFile.Decoder.instr
    show (Except.bind (Jvm.ClassFile.Reader.u1 c pc) _) = _
    rw [u1_at h0]
    rfl
  unfold decode
  rw [e]
  show Except.ok (_, pc + 1 - pc) = _
  rw [Nat.add_sub_cancel_left]
theorem dq_190 {c : ByteArray} {pc : Nat} (h0 : c.data.toList[pc]? = some 190) : decode c pc = .ok (.arraylength, 1) := by
  have e : (Jvm.ClassFile.Decoder.instr pc).runAt c pc = .ok (.arraylength, pc + 1) := by
    show (Jvm.ClassFile.Decoder.instr pc) c pc = _
    unfold Jvm.ClassFile.Decoder.instr
    show (Except.bind (Jvm.ClassFile.Reader.u1 c pc) _) = _
    rw [u1_at h0]
    rfl
  unfold decode
  rw [e]
  show Except.ok (_, pc + 1 - pc) = _
  rw [Nat.add_sub_cancel_left]
theorem dq_76 {c : ByteArray} {pc : Nat} (h0 : c.data.toList[pc]? = some 76) : decode c pc = .ok (.astore_n 1, 1) := by
  have e : (Jvm.ClassFile.Decoder.instr pc).runAt c pc = .ok (.astore_n 1, pc + 1) := by
    show (Jvm.ClassFile.Decoder.instr pc) c pc = _
    unfold Jvm.ClassFile.Decoder.instr
    show (Except.bind (Jvm.ClassFile.Reader.u1 c pc) _) = _
    rw [u1_at h0]
    rfl
  unfold decode
  rw [e]
  show Except.ok (_, pc + 1 - pc) = _
  rw [Nat.add_sub_cancel_left]
theorem dq_77 {c : ByteArray} {pc : Nat} (h0 : c.data.toList[pc]? = some 77) : decode c pc = .ok (.astore_n 2, 1) := by
  have e : (Jvm.ClassFile.Decoder.instr pc).runAt c pc = .ok (.astore_n 2, pc + 1) := by
    show (Jvm.ClassFile.Decoder.instr pc) c pc = _
    unfold Jvm.ClassFile.Decoder.instr
    show (Except.bind (Jvm.ClassFile.Reader.u1 c pc) _) = _
    rw [u1_at h0]
    rfl
  unfold decode
  rw [e]
  show Except.ok (_, pc + 1 - pc) = _
  rw [Nat.add_sub_cancel_left]
theorem dq_51 {c : ByteArray} {pc : Nat} (h0 : c.data.toList[pc]? = some 51) : decode c pc = .ok (.baload, 1) := by
  have e : (Jvm.ClassFile.Decoder.instr pc).runAt c pc = .ok (.baload, pc + 1) := by
    show (Jvm.ClassFile.Decoder.instr pc) c pc = _
    unfold Jvm.ClassFile.Decoder.instr
    show (Except.bind (Jvm.ClassFile.Reader.u1 c pc) _) = _
    rw [u1_at h0]
    rfl
  unfold decode
  rw [e]
  show Except.ok (_, pc + 1 - pc) = _
  rw [Nat.add_sub_cancel_left]
theorem dq_84 {c : ByteArray} {pc : Nat} (h0 : c.data.toList[pc]? = some 84) : decode c pc = .ok (.bastore, 1) := by
  have e : (Jvm.ClassFile.Decoder.instr pc).runAt c pc = .ok (.bastore, pc + 1) := by
    show (Jvm.ClassFile.Decoder.instr pc) c pc = _
    unfold Jvm.ClassFile.Decoder.instr
    show (Except.bind (Jvm.ClassFile.Reader.u1 c pc) _) = _
    rw [u1_at h0]
    rfl
  unfold decode
  rw [e]
  show Except.ok (_, pc + 1 - pc) = _
  rw [Nat.add_sub_cancel_left]
theorem dq_89 {c : ByteArray} {pc : Nat} (h0 : c.data.toList[pc]? = some 89) : decode c pc = .ok (.dup, 1) := by
  have e : (Jvm.ClassFile.Decoder.instr pc).runAt c pc = .ok (.dup, pc + 1) := by
    show (Jvm.ClassFile.Decoder.instr pc) c pc = _
    unfold Jvm.ClassFile.Decoder.instr
    show (Except.bind (Jvm.ClassFile.Reader.u1 c pc) _) = _
    rw [u1_at h0]
    rfl
  unfold decode
  rw [e]
  show Except.ok (_, pc + 1 - pc) = _
  rw [Nat.add_sub_cancel_left]
theorem dq_92 {c : ByteArray} {pc : Nat} (h0 : c.data.toList[pc]? = some 92) : decode c pc = .ok (.dup2, 1) := by
  have e : (Jvm.ClassFile.Decoder.instr pc).runAt c pc = .ok (.dup2, pc + 1) := by
    show (Jvm.ClassFile.Decoder.instr pc) c pc = _
    unfold Jvm.ClassFile.Decoder.instr
    show (Except.bind (Jvm.ClassFile.Reader.u1 c pc) _) = _
    rw [u1_at h0]
    rfl
  unfold decode
  rw [e]
  show Except.ok (_, pc + 1 - pc) = _
  rw [Nat.add_sub_cancel_left]
theorem dq_145 {c : ByteArray} {pc : Nat} (h0 : c.data.toList[pc]? = some 145) : decode c pc = .ok (.i2b, 1) := by
  have e : (Jvm.ClassFile.Decoder.instr pc).runAt c pc = .ok (.i2b, pc + 1) := by
    show (Jvm.ClassFile.Decoder.instr pc) c pc = _
    unfold Jvm.ClassFile.Decoder.instr
    show (Except.bind (Jvm.ClassFile.Reader.u1 c pc) _) = _
    rw [u1_at h0]
    rfl
  unfold decode
  rw [e]
  show Except.ok (_, pc + 1 - pc) = _
  rw [Nat.add_sub_cancel_left]
theorem dq_133 {c : ByteArray} {pc : Nat} (h0 : c.data.toList[pc]? = some 133) : decode c pc = .ok (.i2l, 1) := by
  have e : (Jvm.ClassFile.Decoder.instr pc).runAt c pc = .ok (.i2l, pc + 1) := by
    show (Jvm.ClassFile.Decoder.instr pc) c pc = _
    unfold Jvm.ClassFile.Decoder.instr
    show (Except.bind (Jvm.ClassFile.Reader.u1 c pc) _) = _
    rw [u1_at h0]
    rfl
  unfold decode
  rw [e]
  show Except.ok (_, pc + 1 - pc) = _
  rw [Nat.add_sub_cancel_left]
theorem dq_147 {c : ByteArray} {pc : Nat} (h0 : c.data.toList[pc]? = some 147) : decode c pc = .ok (.i2s, 1) := by
  have e : (Jvm.ClassFile.Decoder.instr pc).runAt c pc = .ok (.i2s, pc + 1) := by
    show (Jvm.ClassFile.Decoder.instr pc) c pc = _
    unfold Jvm.ClassFile.Decoder.instr
    show (Except.bind (Jvm.ClassFile.Reader.u1 c pc) _) = _
    rw [u1_at h0]
    rfl
  unfold decode
  rw [e]
  show Except.ok (_, pc + 1 - pc) = _
  rw [Nat.add_sub_cancel_left]
theorem dq_96 {c : ByteArray} {pc : Nat} (h0 : c.data.toList[pc]? = some 96) : decode c pc = .ok (.iadd, 1) := by
  have e : (Jvm.ClassFile.Decoder.instr pc).runAt c pc = .ok (.iadd, pc + 1) := by
    show (Jvm.ClassFile.Decoder.instr pc) c pc = _
    unfold Jvm.ClassFile.Decoder.instr
    show (Except.bind (Jvm.ClassFile.Reader.u1 c pc) _) = _
    rw [u1_at h0]
    rfl
  unfold decode
  rw [e]
  show Except.ok (_, pc + 1 - pc) = _
  rw [Nat.add_sub_cancel_left]
theorem dq_46 {c : ByteArray} {pc : Nat} (h0 : c.data.toList[pc]? = some 46) : decode c pc = .ok (.iaload, 1) := by
  have e : (Jvm.ClassFile.Decoder.instr pc).runAt c pc = .ok (.iaload, pc + 1) := by
    show (Jvm.ClassFile.Decoder.instr pc) c pc = _
    unfold Jvm.ClassFile.Decoder.instr
    show (Except.bind (Jvm.ClassFile.Reader.u1 c pc) _) = _
    rw [u1_at h0]
    rfl
  unfold decode
  rw [e]
  show Except.ok (_, pc + 1 - pc) = _
  rw [Nat.add_sub_cancel_left]
theorem dq_126 {c : ByteArray} {pc : Nat} (h0 : c.data.toList[pc]? = some 126) : decode c pc = .ok (.iand, 1) := by
  have e : (Jvm.ClassFile.Decoder.instr pc).runAt c pc = .ok (.iand, pc + 1) := by
    show (Jvm.ClassFile.Decoder.instr pc) c pc = _
    unfold Jvm.ClassFile.Decoder.instr
    show (Except.bind (Jvm.ClassFile.Reader.u1 c pc) _) = _
    rw [u1_at h0]
    rfl
  unfold decode
  rw [e]
  show Except.ok (_, pc + 1 - pc) = _
  rw [Nat.add_sub_cancel_left]
theorem dq_79 {c : ByteArray} {pc : Nat} (h0 : c.data.toList[pc]? = some 79) : decode c pc = .ok (.iastore, 1) := by
  have e : (Jvm.ClassFile.Decoder.instr pc).runAt c pc = .ok (.iastore, pc + 1) := by
    show (Jvm.ClassFile.Decoder.instr pc) c pc = _
    unfold Jvm.ClassFile.Decoder.instr
    show (Except.bind (Jvm.ClassFile.Reader.u1 c pc) _) = _
    rw [u1_at h0]
    rfl
  unfold decode
  rw [e]
  show Except.ok (_, pc + 1 - pc) = _
  rw [Nat.add_sub_cancel_left]
theorem dq_2 {c : ByteArray} {pc : Nat} (h0 : c.data.toList[pc]? = some 2) : decode c pc = .ok (.iconst (-1), 1) := by
  have e : (Jvm.ClassFile.Decoder.instr pc).runAt c pc = .ok (.iconst (-1), pc + 1) := by
    show (Jvm.ClassFile.Decoder.instr pc) c pc = _
    unfold Jvm.ClassFile.Decoder.instr
    show (Except.bind (Jvm.ClassFile.Reader.u1 c pc) _) = _
    rw [u1_at h0]
    rfl
  unfold decode
  rw [e]
  show Except.ok (_, pc + 1 - pc) = _
  rw [Nat.add_sub_cancel_left]
theorem dq_3 {c : ByteArray} {pc : Nat} (h0 : c.data.toList[pc]? = some 3) : decode c pc = .ok (.iconst 0, 1) := by
  have e : (Jvm.ClassFile.Decoder.instr pc).runAt c pc = .ok (.iconst 0, pc + 1) := by
    show (Jvm.ClassFile.Decoder.instr pc) c pc = _
    unfold Jvm.ClassFile.Decoder.instr
    show (Except.bind (Jvm.ClassFile.Reader.u1 c pc) _) = _
    rw [u1_at h0]
    rfl
  unfold decode
  rw [e]
  show Except.ok (_, pc + 1 - pc) = _
  rw [Nat.add_sub_cancel_left]
theorem dq_4 {c : ByteArray} {pc : Nat} (h0 : c.data.toList[pc]? = some 4) : decode c pc = .ok (.iconst 1, 1) := by
  have e : (Jvm.ClassFile.Decoder.instr pc).runAt c pc = .ok (.iconst 1, pc + 1) := by
    show (Jvm.ClassFile.Decoder.instr pc) c pc = _
    unfold Jvm.ClassFile.Decoder.instr
    show (Except.bind (Jvm.ClassFile.Reader.u1 c pc) _) = _
    rw [u1_at h0]
    rfl
  unfold decode
  rw [e]
  show Except.ok (_, pc + 1 - pc) = _
  rw [Nat.add_sub_cancel_left]
theorem dq_5 {c : ByteArray} {pc : Nat} (h0 : c.data.toList[pc]? = some 5) : decode c pc = .ok (.iconst 2, 1) := by
  have e : (Jvm.ClassFile.Decoder.instr pc).runAt c pc = .ok (.iconst 2, pc + 1) := by
    show (Jvm.ClassFile.Decoder.instr pc) c pc = _
    unfold Jvm.ClassFile.Decoder.instr
    show (Except.bind (Jvm.ClassFile.Reader.u1 c pc) _) = _
    rw [u1_at h0]
    rfl
  unfold decode
  rw [e]
  show Except.ok (_, pc + 1 - pc) = _
  rw [Nat.add_sub_cancel_left]
theorem dq_6 {c : ByteArray} {pc : Nat} (h0 : c.data.toList[pc]? = some 6) : decode c pc = .ok (.iconst 3, 1) := by
  have e : (Jvm.ClassFile.Decoder.instr pc).runAt c pc = .ok (.iconst 3, pc + 1) := by
    show (Jvm.ClassFile.Decoder.instr pc) c pc = _
    unfold Jvm.ClassFile.Decoder.instr
    show (Except.bind (Jvm.ClassFile.Reader.u1 c pc) _) = _
    rw [u1_at h0]
    rfl
  unfold decode
  rw [e]
  show Except.ok (_, pc + 1 - pc) = _
  rw [Nat.add_sub_cancel_left]
theorem dq_7 {c : ByteArray} {pc : Nat} (h0 : c.data.toList[pc]? = some 7) : decode c pc = .ok (.iconst 4, 1) := by
  have e : (Jvm.ClassFile.Decoder.instr pc).runAt c pc = .ok (.iconst 4, pc + 1) := by
    show (Jvm.ClassFile.Decoder.instr pc) c pc = _
    unfold Jvm.ClassFile.Decoder.instr
    show (Except.bind (Jvm.ClassFile.Reader.u1 c pc) _) = _
    rw [u1_at h0]
    rfl
  unfold decode
  rw [e]
  show Except.ok (_, pc + 1 - pc) = _
  rw [Nat.add_sub_cancel_left]
theorem dq_8 {c : ByteArray} {pc : Nat} (h0 : c.data.toList[pc]? = some 8) : decode c pc = .ok (.iconst 5, 1) := by
  have e : (Jvm.ClassFile.Decoder.instr pc).runAt c pc = .ok (.iconst 5, pc + 1) := by
    show (Jvm.ClassFile.Decoder.instr pc) c pc = _
    unfold Jvm.ClassFile.Decoder.instr
    show (Except.bind (Jvm.ClassFile.Reader.u1 c pc) _) = _
    rw [u1_at h0]
    rfl
  unfold decode
  rw [e]
  show Except.ok (_, pc + 1 - pc) = _
  rw [Nat.add_sub_cancel_left]
theorem dq_108 {c : ByteArray} {pc : Nat} (h0 : c.data.toList[pc]? = some 108) : decode c pc = .ok (.idiv, 1) := by
  have e : (Jvm.ClassFile.Decoder.instr pc).runAt c pc = .ok (.idiv, pc + 1) := by
    show (Jvm.ClassFile.Decoder.instr pc) c pc = _
    unfold Jvm.ClassFile.Decoder.instr
    show (Except.bind (Jvm.ClassFile.Reader.u1 c pc) _) = _
    rw [u1_at h0]
    rfl
  unfold decode
  rw [e]
  show Except.ok (_, pc + 1 - pc) = _
  rw [Nat.add_sub_cancel_left]
theorem dq_26 {c : ByteArray} {pc : Nat} (h0 : c.data.toList[pc]? = some 26) : decode c pc = .ok (.iload_n 0, 1) := by
  have e : (Jvm.ClassFile.Decoder.instr pc).runAt c pc = .ok (.iload_n 0, pc + 1) := by
    show (Jvm.ClassFile.Decoder.instr pc) c pc = _
    unfold Jvm.ClassFile.Decoder.instr
    show (Except.bind (Jvm.ClassFile.Reader.u1 c pc) _) = _
    rw [u1_at h0]
    rfl
  unfold decode
  rw [e]
  show Except.ok (_, pc + 1 - pc) = _
  rw [Nat.add_sub_cancel_left]
theorem dq_27 {c : ByteArray} {pc : Nat} (h0 : c.data.toList[pc]? = some 27) : decode c pc = .ok (.iload_n 1, 1) := by
  have e : (Jvm.ClassFile.Decoder.instr pc).runAt c pc = .ok (.iload_n 1, pc + 1) := by
    show (Jvm.ClassFile.Decoder.instr pc) c pc = _
    unfold Jvm.ClassFile.Decoder.instr
    show (Except.bind (Jvm.ClassFile.Reader.u1 c pc) _) = _
    rw [u1_at h0]
    rfl
  unfold decode
  rw [e]
  show Except.ok (_, pc + 1 - pc) = _
  rw [Nat.add_sub_cancel_left]
theorem dq_28 {c : ByteArray} {pc : Nat} (h0 : c.data.toList[pc]? = some 28) : decode c pc = .ok (.iload_n 2, 1) := by
  have e : (Jvm.ClassFile.Decoder.instr pc).runAt c pc = .ok (.iload_n 2, pc + 1) := by
    show (Jvm.ClassFile.Decoder.instr pc) c pc = _
    unfold Jvm.ClassFile.Decoder.instr
    show (Except.bind (Jvm.ClassFile.Reader.u1 c pc) _) = _
    rw [u1_at h0]
    rfl
  unfold decode
  rw [e]
  show Except.ok (_, pc + 1 - pc) = _
  rw [Nat.add_sub_cancel_left]
theorem dq_29 {c : ByteArray} {pc : Nat} (h0 : c.data.toList[pc]? = some 29) : decode c pc = .ok (.iload_n 3, 1) := by
  have e : (Jvm.ClassFile.Decoder.instr pc).runAt c pc = .ok (.iload_n 3, pc + 1) := by
    show (Jvm.ClassFile.Decoder.instr pc) c pc = _
    unfold Jvm.ClassFile.Decoder.instr
    show (Except.bind (Jvm.ClassFile.Reader.u1 c pc) _) = _
    rw [u1_at h0]
    rfl
  unfold decode
  rw [e]
  show Except.ok (_, pc + 1 - pc) = _
  rw [Nat.add_sub_cancel_left]
theorem dq_104 {c : ByteArray} {pc : Nat} (h0 : c.data.toList[pc]? = some 104) : decode c pc = .ok (.imul, 1) := by
  have e : (Jvm.ClassFile.Decoder.instr pc).runAt c pc = .ok (.imul, pc + 1) := by
    show (Jvm.ClassFile.Decoder.instr pc) c pc = _
    unfold Jvm.ClassFile.Decoder.instr
    show (Except.bind (Jvm.ClassFile.Reader.u1 c pc) _) = _
    rw [u1_at h0]
    rfl
  unfold decode
  rw [e]
  show Except.ok (_, pc + 1 - pc) = _
  rw [Nat.add_sub_cancel_left]
theorem dq_116 {c : ByteArray} {pc : Nat} (h0 : c.data.toList[pc]? = some 116) : decode c pc = .ok (.ineg, 1) := by
  have e : (Jvm.ClassFile.Decoder.instr pc).runAt c pc = .ok (.ineg, pc + 1) := by
    show (Jvm.ClassFile.Decoder.instr pc) c pc = _
    unfold Jvm.ClassFile.Decoder.instr
    show (Except.bind (Jvm.ClassFile.Reader.u1 c pc) _) = _
    rw [u1_at h0]
    rfl
  unfold decode
  rw [e]
  show Except.ok (_, pc + 1 - pc) = _
  rw [Nat.add_sub_cancel_left]
theorem dq_128 {c : ByteArray} {pc : Nat} (h0 : c.data.toList[pc]? = some 128) : decode c pc = .ok (.ior, 1) := by
  have e : (Jvm.ClassFile.Decoder.instr pc).runAt c pc = .ok (.ior, pc + 1) := by
    show (Jvm.ClassFile.Decoder.instr pc) c pc = _
    unfold Jvm.ClassFile.Decoder.instr
    show (Except.bind (Jvm.ClassFile.Reader.u1 c pc) _) = _
    rw [u1_at h0]
    rfl
  unfold decode
  rw [e]
  show Except.ok (_, pc + 1 - pc) = _
  rw [Nat.add_sub_cancel_left]
theorem dq_112 {c : ByteArray} {pc : Nat} (h0 : c.data.toList[pc]? = some 112) : decode c pc = .ok (.irem, 1) := by
  have e : (Jvm.ClassFile.Decoder.instr pc).runAt c pc = .ok (.irem, pc + 1) := by
    show (Jvm.ClassFile.Decoder.instr pc) c pc = _
    unfold Jvm.ClassFile.Decoder.instr
    show (Except.bind (Jvm.ClassFile.Reader.u1 c pc) _) = _
    rw [u1_at h0]
    rfl
  unfold decode
  rw [e]
  show Except.ok (_, pc + 1 - pc) = _
  rw [Nat.add_sub_cancel_left]
theorem dq_172 {c : ByteArray} {pc : Nat} (h0 : c.data.toList[pc]? = some 172) : decode c pc = .ok (.ireturn, 1) := by
  have e : (Jvm.ClassFile.Decoder.instr pc).runAt c pc = .ok (.ireturn, pc + 1) := by
    show (Jvm.ClassFile.Decoder.instr pc) c pc = _
    unfold Jvm.ClassFile.Decoder.instr
    show (Except.bind (Jvm.ClassFile.Reader.u1 c pc) _) = _
    rw [u1_at h0]
    rfl
  unfold decode
  rw [e]
  show Except.ok (_, pc + 1 - pc) = _
  rw [Nat.add_sub_cancel_left]
theorem dq_120 {c : ByteArray} {pc : Nat} (h0 : c.data.toList[pc]? = some 120) : decode c pc = .ok (.ishl, 1) := by
  have e : (Jvm.ClassFile.Decoder.instr pc).runAt c pc = .ok (.ishl, pc + 1) := by
    show (Jvm.ClassFile.Decoder.instr pc) c pc = _
    unfold Jvm.ClassFile.Decoder.instr
    show (Except.bind (Jvm.ClassFile.Reader.u1 c pc) _) = _
    rw [u1_at h0]
    rfl
  unfold decode
  rw [e]
  show Except.ok (_, pc + 1 - pc) = _
  rw [Nat.add_sub_cancel_left]
theorem dq_122 {c : ByteArray} {pc : Nat} (h0 : c.data.toList[pc]? = some 122) : decode c pc = .ok (.ishr, 1) := by
  have e : (Jvm.ClassFile.Decoder.instr pc).runAt c pc = .ok (.ishr, pc + 1) := by
    show (Jvm.ClassFile.Decoder.instr pc) c pc = _
    unfold Jvm.ClassFile.Decoder.instr
    show (Except.bind (Jvm.ClassFile.Reader.u1 c pc) _) = _
    rw [u1_at h0]
    rfl
  unfold decode
  rw [e]
  show Except.ok (_, pc + 1 - pc) = _
  rw [Nat.add_sub_cancel_left]
theorem dq_59 {c : ByteArray} {pc : Nat} (h0 : c.data.toList[pc]? = some 59) : decode c pc = .ok (.istore_n 0, 1) := by
  have e : (Jvm.ClassFile.Decoder.instr pc).runAt c pc = .ok (.istore_n 0, pc + 1) := by
    show (Jvm.ClassFile.Decoder.instr pc) c pc = _
    unfold Jvm.ClassFile.Decoder.instr
    show (Except.bind (Jvm.ClassFile.Reader.u1 c pc) _) = _
    rw [u1_at h0]
    rfl
  unfold decode
  rw [e]
  show Except.ok (_, pc + 1 - pc) = _
  rw [Nat.add_sub_cancel_left]
theorem dq_60 {c : ByteArray} {pc : Nat} (h0 : c.data.toList[pc]? = some 60) : decode c pc = .ok (.istore_n 1, 1) := by
  have e : (Jvm.ClassFile.Decoder.instr pc).runAt c pc = .ok (.istore_n 1, pc + 1) := by
    show (Jvm.ClassFile.Decoder.instr pc) c pc = _
    unfold Jvm.ClassFile.Decoder.instr
    show (Except.bind (Jvm.ClassFile.Reader.u1 c pc) _) = _
    rw [u1_at h0]
    rfl
  unfold decode
  rw [e]
  show Except.ok (_, pc + 1 - pc) = _
  rw [Nat.add_sub_cancel_left]
theorem dq_61 {c : ByteArray} {pc : Nat} (h0 : c.data.toList[pc]? = some 61) : decode c pc = .ok (.istore_n 2, 1) := by
  have e : (Jvm.ClassFile.Decoder.instr pc).runAt c pc = .ok (.istore_n 2, pc + 1) := by
    show (Jvm.ClassFile.Decoder.instr pc) c pc = _
    unfold Jvm.ClassFile.Decoder.instr
    show (Except.bind (Jvm.ClassFile.Reader.u1 c pc) _) = _
    rw [u1_at h0]
    rfl
  unfold decode
  rw [e]
  show Except.ok (_, pc + 1 - pc) = _
  rw [Nat.add_sub_cancel_left]
theorem dq_62 {c : ByteArray} {pc : Nat} (h0 : c.data.toList[pc]? = some 62) : decode c pc = .ok (.istore_n 3, 1) := by
  have e : (Jvm.ClassFile.Decoder.instr pc).runAt c pc = .ok (.istore_n 3, pc + 1) := by
    show (Jvm.ClassFile.Decoder.instr pc) c pc = _
    unfold Jvm.ClassFile.Decoder.instr
    show (Except.bind (Jvm.ClassFile.Reader.u1 c pc) _) = _
    rw [u1_at h0]
    rfl
  unfold decode
  rw [e]
  show Except.ok (_, pc + 1 - pc) = _
  rw [Nat.add_sub_cancel_left]
theorem dq_100 {c : ByteArray} {pc : Nat} (h0 : c.data.toList[pc]? = some 100) : decode c pc = .ok (.isub, 1) := by
  have e : (Jvm.ClassFile.Decoder.instr pc).runAt c pc = .ok (.isub, pc + 1) := by
    show (Jvm.ClassFile.Decoder.instr pc) c pc = _
    unfold Jvm.ClassFile.Decoder.instr
    show (Except.bind (Jvm.ClassFile.Reader.u1 c pc) _) = _
    rw [u1_at h0]
    rfl
  unfold decode
  rw [e]
  show Except.ok (_, pc + 1 - pc) = _
  rw [Nat.add_sub_cancel_left]
theorem dq_124 {c : ByteArray} {pc : Nat} (h0 : c.data.toList[pc]? = some 124) : decode c pc = .ok (.iushr, 1) := by
  have e : (Jvm.ClassFile.Decoder.instr pc).runAt c pc = .ok (.iushr, pc + 1) := by
    show (Jvm.ClassFile.Decoder.instr pc) c pc = _
    unfold Jvm.ClassFile.Decoder.instr
    show (Except.bind (Jvm.ClassFile.Reader.u1 c pc) _) = _
    rw [u1_at h0]
    rfl
  unfold decode
  rw [e]
  show Except.ok (_, pc + 1 - pc) = _
  rw [Nat.add_sub_cancel_left]
theorem dq_130 {c : ByteArray} {pc : Nat} (h0 : c.data.toList[pc]? = some 130) : decode c pc = .ok (.ixor, 1) := by
  have e : (Jvm.ClassFile.Decoder.instr pc).runAt c pc = .ok (.ixor, pc + 1) := by
    show (Jvm.ClassFile.Decoder.instr pc) c pc = _
    unfold Jvm.ClassFile.Decoder.instr
    show (Except.bind (Jvm.ClassFile.Reader.u1 c pc) _) = _
    rw [u1_at h0]
    rfl
  unfold decode
  rw [e]
  show Except.ok (_, pc + 1 - pc) = _
  rw [Nat.add_sub_cancel_left]
theorem dq_136 {c : ByteArray} {pc : Nat} (h0 : c.data.toList[pc]? = some 136) : decode c pc = .ok (.l2i, 1) := by
  have e : (Jvm.ClassFile.Decoder.instr pc).runAt c pc = .ok (.l2i, pc + 1) := by
    show (Jvm.ClassFile.Decoder.instr pc) c pc = _
    unfold Jvm.ClassFile.Decoder.instr
    show (Except.bind (Jvm.ClassFile.Reader.u1 c pc) _) = _
    rw [u1_at h0]
    rfl
  unfold decode
  rw [e]
  show Except.ok (_, pc + 1 - pc) = _
  rw [Nat.add_sub_cancel_left]
theorem dq_97 {c : ByteArray} {pc : Nat} (h0 : c.data.toList[pc]? = some 97) : decode c pc = .ok (.ladd, 1) := by
  have e : (Jvm.ClassFile.Decoder.instr pc).runAt c pc = .ok (.ladd, pc + 1) := by
    show (Jvm.ClassFile.Decoder.instr pc) c pc = _
    unfold Jvm.ClassFile.Decoder.instr
    show (Except.bind (Jvm.ClassFile.Reader.u1 c pc) _) = _
    rw [u1_at h0]
    rfl
  unfold decode
  rw [e]
  show Except.ok (_, pc + 1 - pc) = _
  rw [Nat.add_sub_cancel_left]
theorem dq_148 {c : ByteArray} {pc : Nat} (h0 : c.data.toList[pc]? = some 148) : decode c pc = .ok (.lcmp, 1) := by
  have e : (Jvm.ClassFile.Decoder.instr pc).runAt c pc = .ok (.lcmp, pc + 1) := by
    show (Jvm.ClassFile.Decoder.instr pc) c pc = _
    unfold Jvm.ClassFile.Decoder.instr
    show (Except.bind (Jvm.ClassFile.Reader.u1 c pc) _) = _
    rw [u1_at h0]
    rfl
  unfold decode
  rw [e]
  show Except.ok (_, pc + 1 - pc) = _
  rw [Nat.add_sub_cancel_left]
theorem dq_9 {c : ByteArray} {pc : Nat} (h0 : c.data.toList[pc]? = some 9) : decode c pc = .ok (.lconst 0, 1) := by
  have e : (Jvm.ClassFile.Decoder.instr pc).runAt c pc = .ok (.lconst 0, pc + 1) := by
    show (Jvm.ClassFile.Decoder.instr pc) c pc = _
    unfold Jvm.ClassFile.Decoder.instr
    show (Except.bind (Jvm.ClassFile.Reader.u1 c pc) _) = _
    rw [u1_at h0]
    rfl
  unfold decode
  rw [e]
  show Except.ok (_, pc + 1 - pc) = _
  rw [Nat.add_sub_cancel_left]
theorem dq_10 {c : ByteArray} {pc : Nat} (h0 : c.data.toList[pc]? = some 10) : decode c pc = .ok (.lconst 1, 1) := by
  have e : (Jvm.ClassFile.Decoder.instr pc).runAt c pc = .ok (.lconst 1, pc + 1) := by
    show (Jvm.ClassFile.Decoder.instr pc) c pc = _
    unfold Jvm.ClassFile.Decoder.instr
    show (Except.bind (Jvm.ClassFile.Reader.u1 c pc) _) = _
    rw [u1_at h0]
    rfl
  unfold decode
  rw [e]
  show Except.ok (_, pc + 1 - pc) = _
  rw [Nat.add_sub_cancel_left]
theorem dq_109 {c : ByteArray} {pc : Nat} (h0 : c.data.toList[pc]? = some 109) : decode c pc = .ok (.ldiv, 1) := by
  have e : (Jvm.ClassFile.Decoder.instr pc).runAt c pc = .ok (.ldiv, pc + 1) := by
    show (Jvm.ClassFile.Decoder.instr pc) c pc = _
    unfold Jvm.ClassFile.Decoder.instr
    show (Except.bind (Jvm.ClassFile.Reader.u1 c pc) _) = _
    rw [u1_at h0]
    rfl
  unfold decode
  rw [e]
  show Except.ok (_, pc + 1 - pc) = _
  rw [Nat.add_sub_cancel_left]
theorem dq_30 {c : ByteArray} {pc : Nat} (h0 : c.data.toList[pc]? = some 30) : decode c pc = .ok (.lload_n 0, 1) := by
  have e : (Jvm.ClassFile.Decoder.instr pc).runAt c pc = .ok (.lload_n 0, pc + 1) := by
    show (Jvm.ClassFile.Decoder.instr pc) c pc = _
    unfold Jvm.ClassFile.Decoder.instr
    show (Except.bind (Jvm.ClassFile.Reader.u1 c pc) _) = _
    rw [u1_at h0]
    rfl
  unfold decode
  rw [e]
  show Except.ok (_, pc + 1 - pc) = _
  rw [Nat.add_sub_cancel_left]
theorem dq_31 {c : ByteArray} {pc : Nat} (h0 : c.data.toList[pc]? = some 31) : decode c pc = .ok (.lload_n 1, 1) := by
  have e : (Jvm.ClassFile.Decoder.instr pc).runAt c pc = .ok (.lload_n 1, pc + 1) := by
    show (Jvm.ClassFile.Decoder.instr pc) c pc = _
    unfold Jvm.ClassFile.Decoder.instr
    show (Except.bind (Jvm.ClassFile.Reader.u1 c pc) _) = _
    rw [u1_at h0]
    rfl
  unfold decode
  rw [e]
  show Except.ok (_, pc + 1 - pc) = _
  rw [Nat.add_sub_cancel_left]
theorem dq_32 {c : ByteArray} {pc : Nat} (h0 : c.data.toList[pc]? = some 32) : decode c pc = .ok (.lload_n 2, 1) := by
  have e : (Jvm.ClassFile.Decoder.instr pc).runAt c pc = .ok (.lload_n 2, pc + 1) := by
    show (Jvm.ClassFile.Decoder.instr pc) c pc = _
    unfold Jvm.ClassFile.Decoder.instr
    show (Except.bind (Jvm.ClassFile.Reader.u1 c pc) _) = _
    rw [u1_at h0]
    rfl
  unfold decode
  rw [e]
  show Except.ok (_, pc + 1 - pc) = _
  rw [Nat.add_sub_cancel_left]
theorem dq_105 {c : ByteArray} {pc : Nat} (h0 : c.data.toList[pc]? = some 105) : decode c pc = .ok (.lmul, 1) := by
  have e : (Jvm.ClassFile.Decoder.instr pc).runAt c pc = .ok (.lmul, pc + 1) := by
    show (Jvm.ClassFile.Decoder.instr pc) c pc = _
    unfold Jvm.ClassFile.Decoder.instr
    show (Except.bind (Jvm.ClassFile.Reader.u1 c pc) _) = _
    rw [u1_at h0]
    rfl
  unfold decode
  rw [e]
  show Except.ok (_, pc + 1 - pc) = _
  rw [Nat.add_sub_cancel_left]
theorem dq_113 {c : ByteArray} {pc : Nat} (h0 : c.data.toList[pc]? = some 113) : decode c pc = .ok (.lrem, 1) := by
  have e : (Jvm.ClassFile.Decoder.instr pc).runAt c pc = .ok (.lrem, pc + 1) := by
    show (Jvm.ClassFile.Decoder.instr pc) c pc = _
    unfold Jvm.ClassFile.Decoder.instr
    show (Except.bind (Jvm.ClassFile.Reader.u1 c pc) _) = _
    rw [u1_at h0]
    rfl
  unfold decode
  rw [e]
  show Except.ok (_, pc + 1 - pc) = _
  rw [Nat.add_sub_cancel_left]
theorem dq_173 {c : ByteArray} {pc : Nat} (h0 : c.data.toList[pc]? = some 173) : decode c pc = .ok (.lreturn, 1) := by
  have e : (Jvm.ClassFile.Decoder.instr pc).runAt c pc = .ok (.lreturn, pc + 1) := by
    show (Jvm.ClassFile.Decoder.instr pc) c pc = _
    unfold Jvm.ClassFile.Decoder.instr
    show (Except.bind (Jvm.ClassFile.Reader.u1 c pc) _) = _
    rw [u1_at h0]
    rfl
  unfold decode
  rw [e]
  show Except.ok (_, pc + 1 - pc) = _
  rw [Nat.add_sub_cancel_left]
theorem dq_101 {c : ByteArray} {pc : Nat} (h0 : c.data.toList[pc]? = some 101) : decode c pc = .ok (.lsub, 1) := by
  have e : (Jvm.ClassFile.Decoder.instr pc).runAt c pc = .ok (.lsub, pc + 1) := by
    show (Jvm.ClassFile.Decoder.instr pc) c pc = _
    unfold Jvm.ClassFile.Decoder.instr
    show (Except.bind (Jvm.ClassFile.Reader.u1 c pc) _) = _
    rw [u1_at h0]
    rfl
  unfold decode
  rw [e]
  show Except.ok (_, pc + 1 - pc) = _
  rw [Nat.add_sub_cancel_left]
theorem dq_87 {c : ByteArray} {pc : Nat} (h0 : c.data.toList[pc]? = some 87) : decode c pc = .ok (.pop, 1) := by
  have e : (Jvm.ClassFile.Decoder.instr pc).runAt c pc = .ok (.pop, pc + 1) := by
    show (Jvm.ClassFile.Decoder.instr pc) c pc = _
    unfold Jvm.ClassFile.Decoder.instr
    show (Except.bind (Jvm.ClassFile.Reader.u1 c pc) _) = _
    rw [u1_at h0]
    rfl
  unfold decode
  rw [e]
  show Except.ok (_, pc + 1 - pc) = _
  rw [Nat.add_sub_cancel_left]
theorem dq_88 {c : ByteArray} {pc : Nat} (h0 : c.data.toList[pc]? = some 88) : decode c pc = .ok (.pop2, 1) := by
  have e : (Jvm.ClassFile.Decoder.instr pc).runAt c pc = .ok (.pop2, pc + 1) := by
    show (Jvm.ClassFile.Decoder.instr pc) c pc = _
    unfold Jvm.ClassFile.Decoder.instr
    show (Except.bind (Jvm.ClassFile.Reader.u1 c pc) _) = _
    rw [u1_at h0]
    rfl
  unfold decode
  rw [e]
  show Except.ok (_, pc + 1 - pc) = _
  rw [Nat.add_sub_cancel_left]
theorem dq_177 {c : ByteArray} {pc : Nat} (h0 : c.data.toList[pc]? = some 177) : decode c pc = .ok (.return_, 1) := by
  have e : (Jvm.ClassFile.Decoder.instr pc).runAt c pc = .ok (.return_, pc + 1) := by
    show (Jvm.ClassFile.Decoder.instr pc) c pc = _
    unfold Jvm.ClassFile.Decoder.instr
    show (Except.bind (Jvm.ClassFile.Reader.u1 c pc) _) = _
    rw [u1_at h0]
    rfl
  unfold decode
  rw [e]
  show Except.ok (_, pc + 1 - pc) = _
  rw [Nat.add_sub_cancel_left]
theorem dq_132 {c : ByteArray} {pc : Nat} {b1 b2 : UInt8} {k : Nat} {n : Int} (h : (c.data.toList.drop pc).take 3 = [132, b1, b2]) (hk : b1.toNat = k) (hn : Jvm.ClassFile.Reader.signed 8 b2.toNat = n) : decode c pc = .ok (.iinc k n, 3) := by
  subst hk hn
  have h0 := tk_at h (i := 0) (by decide) rfl
  have h1 := tk_at h (i := 1) (by decide) rfl
  have h2 := tk_at h (i := 2) (by decide) rfl
  rw [Nat.add_zero] at h0
  have e : (Jvm.ClassFile.Decoder.instr pc).runAt c pc = .ok (.iinc b1.toNat (Jvm.ClassFile.Reader.signed 8 b2.toNat), pc + 3) := by
    show (Jvm.ClassFile.Decoder.instr pc) c pc = _
    unfold Jvm.ClassFile.Decoder.instr
    show (Except.bind (Jvm.ClassFile.Reader.u1 c pc) _) = _
    rw [u1_at h0]
    show (Except.bind (Jvm.ClassFile.Reader.u1 c (pc + 1)) _) = _
    rw [u1_at h1]
    show (Except.bind (Except.map _ (Jvm.ClassFile.Reader.u1 c (pc + 1 + 1))) _) = _
    rw [u1_at h2]
    rfl
  unfold decode
  rw [e]
  show Except.ok (_, pc + 3 - pc) = _
  rw [Nat.add_sub_cancel_left]
theorem dq_16 {c : ByteArray} {pc : Nat} {b1 : UInt8} {n : Int} (h : (c.data.toList.drop pc).take 2 = [16, b1]) (hn : (Jvm.ClassFile.Reader.signed 8 b1.toNat) = n) : decode c pc = .ok (.bipush n, 2) := by
  subst hn
  have h0 := tk_at h (i := 0) (by decide) rfl
  have h1 := tk_at h (i := 1) (by decide) rfl
  rw [Nat.add_zero] at h0
  have e : (Jvm.ClassFile.Decoder.instr pc).runAt c pc = .ok (.bipush (Jvm.ClassFile.Reader.signed 8 b1.toNat), pc + 2) := by
    show (Jvm.ClassFile.Decoder.instr pc) c pc = _
    unfold Jvm.ClassFile.Decoder.instr
    show (Except.bind (Jvm.ClassFile.Reader.u1 c pc) _) = _
    rw [u1_at h0]
    show (Except.bind (Except.map _ (Jvm.ClassFile.Reader.u1 c (pc + 1))) _) = _
    rw [u1_at h1]
    rfl
  unfold decode
  rw [e]
  show Except.ok (_, pc + 2 - pc) = _
  rw [Nat.add_sub_cancel_left]
theorem dq_167 {c : ByteArray} {pc : Nat} {b1 b2 : UInt8} {n : Int} (h : (c.data.toList.drop pc).take 3 = [167, b1, b2]) (hn : (Jvm.ClassFile.Reader.signed 16 (b1.toNat * 256 + b2.toNat)) = n) : decode c pc = .ok (.goto n, 3) := by
  subst hn
  have h0 := tk_at h (i := 0) (by decide) rfl
  have h1 := tk_at h (i := 1) (by decide) rfl
  have h2 := tk_at h (i := 2) (by decide) rfl
  rw [Nat.add_zero] at h0
  have e : (Jvm.ClassFile.Decoder.instr pc).runAt c pc = .ok (.goto (Jvm.ClassFile.Reader.signed 16 (b1.toNat * 256 + b2.toNat)), pc + 3) := by
    show (Jvm.ClassFile.Decoder.instr pc) c pc = _
    unfold Jvm.ClassFile.Decoder.instr
    show (Except.bind (Jvm.ClassFile.Reader.u1 c pc) _) = _
    rw [u1_at h0]
    show (Except.bind (Except.map _ (Except.bind (Jvm.ClassFile.Reader.u1 c (pc + 1)) _)) _) = _
    rw [u1_at h1]
    show (Except.bind (Except.map _ (Except.bind (Jvm.ClassFile.Reader.u1 c (pc + 1 + 1)) _)) _) = _
    rw [u1_at h2]
    rfl
  unfold decode
  rw [e]
  show Except.ok (_, pc + 3 - pc) = _
  rw [Nat.add_sub_cancel_left]
theorem dq_153 {c : ByteArray} {pc : Nat} {b1 b2 : UInt8} {n : Int} (h : (c.data.toList.drop pc).take 3 = [153, b1, b2]) (hn : (Jvm.ClassFile.Reader.signed 16 (b1.toNat * 256 + b2.toNat)) = n) : decode c pc = .ok (.ifCond .eq n, 3) := by
  subst hn
  have h0 := tk_at h (i := 0) (by decide) rfl
  have h1 := tk_at h (i := 1) (by decide) rfl
  have h2 := tk_at h (i := 2) (by decide) rfl
  rw [Nat.add_zero] at h0
  have e : (Jvm.ClassFile.Decoder.instr pc).runAt c pc = .ok (.ifCond .eq (Jvm.ClassFile.Reader.signed 16 (b1.toNat * 256 + b2.toNat)), pc + 3) := by
    show (Jvm.ClassFile.Decoder.instr pc) c pc = _
    unfold Jvm.ClassFile.Decoder.instr
    show (Except.bind (Jvm.ClassFile.Reader.u1 c pc) _) = _
    rw [u1_at h0]
    show (Except.bind (Except.map _ (Except.bind (Jvm.ClassFile.Reader.u1 c (pc + 1)) _)) _) = _
    rw [u1_at h1]
    show (Except.bind (Except.map _ (Except.bind (Jvm.ClassFile.Reader.u1 c (pc + 1 + 1)) _)) _) = _
    rw [u1_at h2]
    rfl
  unfold decode
  rw [e]
  show Except.ok (_, pc + 3 - pc) = _
  rw [Nat.add_sub_cancel_left]
theorem dq_156 {c : ByteArray} {pc : Nat} {b1 b2 : UInt8} {n : Int} (h : (c.data.toList.drop pc).take 3 = [156, b1, b2]) (hn : (Jvm.ClassFile.Reader.signed 16 (b1.toNat * 256 + b2.toNat)) = n) : decode c pc = .ok (.ifCond .ge n, 3) := by
  subst hn
  have h0 := tk_at h (i := 0) (by decide) rfl
  have h1 := tk_at h (i := 1) (by decide) rfl
  have h2 := tk_at h (i := 2) (by decide) rfl
  rw [Nat.add_zero] at h0
  have e : (Jvm.ClassFile.Decoder.instr pc).runAt c pc = .ok (.ifCond .ge (Jvm.ClassFile.Reader.signed 16 (b1.toNat * 256 + b2.toNat)), pc + 3) := by
    show (Jvm.ClassFile.Decoder.instr pc) c pc = _
    unfold Jvm.ClassFile.Decoder.instr
    show (Except.bind (Jvm.ClassFile.Reader.u1 c pc) _) = _
    rw [u1_at h0]
    show (Except.bind (Except.map _ (Except.bind (Jvm.ClassFile.Reader.u1 c (pc + 1)) _)) _) = _
    rw [u1_at h1]
    show (Except.bind (Except.map _ (Except.bind (Jvm.ClassFile.Reader.u1 c (pc + 1 + 1)) _)) _) = _
    rw [u1_at h2]
    rfl
  unfold decode
  rw [e]
  show Except.ok (_, pc + 3 - pc) = _
  rw [Nat.add_sub_cancel_left]
theorem dq_157 {c : ByteArray} {pc : Nat} {b1 b2 : UInt8} {n : Int} (h : (c.data.toList.drop pc).take 3 = [157, b1, b2]) (hn : (Jvm.ClassFile.Reader.signed 16 (b1.toNat * 256 + b2.toNat)) = n) : decode c pc = .ok (.ifCond .gt n, 3) := by
  subst hn
  have h0 := tk_at h (i := 0) (by decide) rfl
  have h1 := tk_at h (i := 1) (by decide) rfl
  have h2 := tk_at h (i := 2) (by decide) rfl
  rw [Nat.add_zero] at h0
  have e : (Jvm.ClassFile.Decoder.instr pc).runAt c pc = .ok (.ifCond .gt (Jvm.ClassFile.Reader.signed 16 (b1.toNat * 256 + b2.toNat)), pc + 3) := by
    show (Jvm.ClassFile.Decoder.instr pc) c pc = _
    unfold Jvm.ClassFile.Decoder.instr
    show (Except.bind (Jvm.ClassFile.Reader.u1 c pc) _) = _
    rw [u1_at h0]
    show (Except.bind (Except.map _ (Except.bind (Jvm.ClassFile.Reader.u1 c (pc + 1)) _)) _) = _
    rw [u1_at h1]
    show (Except.bind (Except.map _ (Except.bind (Jvm.ClassFile.Reader.u1 c (pc + 1 + 1)) _)) _) = _
    rw [u1_at h2]
    rfl
  unfold decode
  rw [e]
  show Except.ok (_, pc + 3 - pc) = _
  rw [Nat.add_sub_cancel_left]
theorem dq_158 {c : ByteArray} {pc : Nat} {b1 b2 : UInt8} {n : Int} (h : (c.data.toList.drop pc).take 3 = [158, b1, b2]) (hn : (Jvm.ClassFile.Reader.signed 16 (b1.toNat * 256 + b2.toNat)) = n) : decode c pc = .ok (.ifCond .le n, 3) := by
  subst hn
  have h0 := tk_at h (i := 0) (by decide) rfl
  have h1 := tk_at h (i := 1) (by decide) rfl
  have h2 := tk_at h (i := 2) (by decide) rfl
  rw [Nat.add_zero] at h0
  have e : (Jvm.ClassFile.Decoder.instr pc).runAt c pc = .ok (.ifCond .le (Jvm.ClassFile.Reader.signed 16 (b1.toNat * 256 + b2.toNat)), pc + 3) := by
    show (Jvm.ClassFile.Decoder.instr pc) c pc = _
    unfold Jvm.ClassFile.Decoder.instr
    show (Except.bind (Jvm.ClassFile.Reader.u1 c pc) _) = _
    rw [u1_at h0]
    show (Except.bind (Except.map _ (Except.bind (Jvm.ClassFile.Reader.u1 c (pc + 1)) _)) _) = _
    rw [u1_at h1]
    show (Except.bind (Except.map _ (Except.bind (Jvm.ClassFile.Reader.u1 c (pc + 1 + 1)) _)) _) = _
    rw [u1_at h2]
    rfl
  unfold decode
  rw [e]
  show Except.ok (_, pc + 3 - pc) = _
  rw [Nat.add_sub_cancel_left]
theorem dq_155 {c : ByteArray} {pc : Nat} {b1 b2 : UInt8} {n : Int} (h : (c.data.toList.drop pc).take 3 = [155, b1, b2]) (hn : (Jvm.ClassFile.Reader.signed 16 (b1.toNat * 256 + b2.toNat)) = n) : decode c pc = .ok (.ifCond .lt n, 3) := by
  subst hn
  have h0 := tk_at h (i := 0) (by decide) rfl
  have h1 := tk_at h (i := 1) (by decide) rfl
  have h2 := tk_at h (i := 2) (by decide) rfl
  rw [Nat.add_zero] at h0
  have e : (Jvm.ClassFile.Decoder.instr pc).runAt c pc = .ok (.ifCond .lt (Jvm.ClassFile.Reader.signed 16 (b1.toNat * 256 + b2.toNat)), pc + 3) := by
    show (Jvm.ClassFile.Decoder.instr pc) c pc = _
    unfold Jvm.ClassFile.Decoder.instr
    show (Except.bind (Jvm.ClassFile.Reader.u1 c pc) _) = _
    rw [u1_at h0]
    show (Except.bind (Except.map _ (Except.bind (Jvm.ClassFile.Reader.u1 c (pc + 1)) _)) _) = _
    rw [u1_at h1]
    show (Except.bind (Except.map _ (Except.bind (Jvm.ClassFile.Reader.u1 c (pc + 1 + 1)) _)) _) = _
    rw [u1_at h2]
    rfl
  unfold decode
  rw [e]
  show Except.ok (_, pc + 3 - pc) = _
  rw [Nat.add_sub_cancel_left]
theorem dq_154 {c : ByteArray} {pc : Nat} {b1 b2 : UInt8} {n : Int} (h : (c.data.toList.drop pc).take 3 = [154, b1, b2]) (hn : (Jvm.ClassFile.Reader.signed 16 (b1.toNat * 256 + b2.toNat)) = n) : decode c pc = .ok (.ifCond .ne n, 3) := by
  subst hn
  have h0 := tk_at h (i := 0) (by decide) rfl
  have h1 := tk_at h (i := 1) (by decide) rfl
  have h2 := tk_at h (i := 2) (by decide) rfl
  rw [Nat.add_zero] at h0
  have e : (Jvm.ClassFile.Decoder.instr pc).runAt c pc = .ok (.ifCond .ne (Jvm.ClassFile.Reader.signed 16 (b1.toNat * 256 + b2.toNat)), pc + 3) := by
    show (Jvm.ClassFile.Decoder.instr pc) c pc = _
    unfold Jvm.ClassFile.Decoder.instr
    show (Except.bind (Jvm.ClassFile.Reader.u1 c pc) _) = _
    rw [u1_at h0]
    show (Except.bind (Except.map _ (Except.bind (Jvm.ClassFile.Reader.u1 c (pc + 1)) _)) _) = _
    rw [u1_at h1]
    show (Except.bind (Except.map _ (Except.bind (Jvm.ClassFile.Reader.u1 c (pc + 1 + 1)) _)) _) = _
    rw [u1_at h2]
    rfl
  unfold decode
  rw [e]
  show Except.ok (_, pc + 3 - pc) = _
  rw [Nat.add_sub_cancel_left]
theorem dq_159 {c : ByteArray} {pc : Nat} {b1 b2 : UInt8} {n : Int} (h : (c.data.toList.drop pc).take 3 = [159, b1, b2]) (hn : (Jvm.ClassFile.Reader.signed 16 (b1.toNat * 256 + b2.toNat)) = n) : decode c pc = .ok (.if_icmp .eq n, 3) := by
  subst hn
  have h0 := tk_at h (i := 0) (by decide) rfl
  have h1 := tk_at h (i := 1) (by decide) rfl
  have h2 := tk_at h (i := 2) (by decide) rfl
  rw [Nat.add_zero] at h0
  have e : (Jvm.ClassFile.Decoder.instr pc).runAt c pc = .ok (.if_icmp .eq (Jvm.ClassFile.Reader.signed 16 (b1.toNat * 256 + b2.toNat)), pc + 3) := by
    show (Jvm.ClassFile.Decoder.instr pc) c pc = _
    unfold Jvm.ClassFile.Decoder.instr
    show (Except.bind (Jvm.ClassFile.Reader.u1 c pc) _) = _
    rw [u1_at h0]
    show (Except.bind (Except.map _ (Except.bind (Jvm.ClassFile.Reader.u1 c (pc + 1)) _)) _) = _
    rw [u1_at h1]
    show (Except.bind (Except.map _ (Except.bind (Jvm.ClassFile.Reader.u1 c (pc + 1 + 1)) _)) _) = _
    rw [u1_at h2]
    rfl
  unfold decode
  rw [e]
  show Except.ok (_, pc + 3 - pc) = _
  rw [Nat.add_sub_cancel_left]
theorem dq_162 {c : ByteArray} {pc : Nat} {b1 b2 : UInt8} {n : Int} (h : (c.data.toList.drop pc).take 3 = [162, b1, b2]) (hn : (Jvm.ClassFile.Reader.signed 16 (b1.toNat * 256 + b2.toNat)) = n) : decode c pc = .ok (.if_icmp .ge n, 3) := by
  subst hn
  have h0 := tk_at h (i := 0) (by decide) rfl
  have h1 := tk_at h (i := 1) (by decide) rfl
  have h2 := tk_at h (i := 2) (by decide) rfl
  rw [Nat.add_zero] at h0
  have e : (Jvm.ClassFile.Decoder.instr pc).runAt c pc = .ok (.if_icmp .ge (Jvm.ClassFile.Reader.signed 16 (b1.toNat * 256 + b2.toNat)), pc + 3) := by
    show (Jvm.ClassFile.Decoder.instr pc) c pc = _
    unfold Jvm.ClassFile.Decoder.instr
    show (Except.bind (Jvm.ClassFile.Reader.u1 c pc) _) = _
    rw [u1_at h0]
    show (Except.bind (Except.map _ (Except.bind (Jvm.ClassFile.Reader.u1 c (pc + 1)) _)) _) = _
    rw [u1_at h1]
    show (Except.bind (Except.map _ (Except.bind (Jvm.ClassFile.Reader.u1 c (pc + 1 + 1)) _)) _) = _
    rw [u1_at h2]
    rfl
  unfold decode
  rw [e]
  show Except.ok (_, pc + 3 - pc) = _
  rw [Nat.add_sub_cancel_left]
theorem dq_163 {c : ByteArray} {pc : Nat} {b1 b2 : UInt8} {n : Int} (h : (c.data.toList.drop pc).take 3 = [163, b1, b2]) (hn : (Jvm.ClassFile.Reader.signed 16 (b1.toNat * 256 + b2.toNat)) = n) : decode c pc = .ok (.if_icmp .gt n, 3) := by
  subst hn
  have h0 := tk_at h (i := 0) (by decide) rfl
  have h1 := tk_at h (i := 1) (by decide) rfl
  have h2 := tk_at h (i := 2) (by decide) rfl
  rw [Nat.add_zero] at h0
  have e : (Jvm.ClassFile.Decoder.instr pc).runAt c pc = .ok (.if_icmp .gt (Jvm.ClassFile.Reader.signed 16 (b1.toNat * 256 + b2.toNat)), pc + 3) := by
    show (Jvm.ClassFile.Decoder.instr pc) c pc = _
    unfold Jvm.ClassFile.Decoder.instr
    show (Except.bind (Jvm.ClassFile.Reader.u1 c pc) _) = _
    rw [u1_at h0]
    show (Except.bind (Except.map _ (Except.bind (Jvm.ClassFile.Reader.u1 c (pc + 1)) _)) _) = _
    rw [u1_at h1]
    show (Except.bind (Except.map _ (Except.bind (Jvm.ClassFile.Reader.u1 c (pc + 1 + 1)) _)) _) = _
    rw [u1_at h2]
    rfl
  unfold decode
  rw [e]
  show Except.ok (_, pc + 3 - pc) = _
  rw [Nat.add_sub_cancel_left]
theorem dq_164 {c : ByteArray} {pc : Nat} {b1 b2 : UInt8} {n : Int} (h : (c.data.toList.drop pc).take 3 = [164, b1, b2]) (hn : (Jvm.ClassFile.Reader.signed 16 (b1.toNat * 256 + b2.toNat)) = n) : decode c pc = .ok (.if_icmp .le n, 3) := by
  subst hn
  have h0 := tk_at h (i := 0) (by decide) rfl
  have h1 := tk_at h (i := 1) (by decide) rfl
  have h2 := tk_at h (i := 2) (by decide) rfl
  rw [Nat.add_zero] at h0
  have e : (Jvm.ClassFile.Decoder.instr pc).runAt c pc = .ok (.if_icmp .le (Jvm.ClassFile.Reader.signed 16 (b1.toNat * 256 + b2.toNat)), pc + 3) := by
    show (Jvm.ClassFile.Decoder.instr pc) c pc = _
    unfold Jvm.ClassFile.Decoder.instr
    show (Except.bind (Jvm.ClassFile.Reader.u1 c pc) _) = _
    rw [u1_at h0]
    show (Except.bind (Except.map _ (Except.bind (Jvm.ClassFile.Reader.u1 c (pc + 1)) _)) _) = _
    rw [u1_at h1]
    show (Except.bind (Except.map _ (Except.bind (Jvm.ClassFile.Reader.u1 c (pc + 1 + 1)) _)) _) = _
    rw [u1_at h2]
    rfl
  unfold decode
  rw [e]
  show Except.ok (_, pc + 3 - pc) = _
  rw [Nat.add_sub_cancel_left]
theorem dq_161 {c : ByteArray} {pc : Nat} {b1 b2 : UInt8} {n : Int} (h : (c.data.toList.drop pc).take 3 = [161, b1, b2]) (hn : (Jvm.ClassFile.Reader.signed 16 (b1.toNat * 256 + b2.toNat)) = n) : decode c pc = .ok (.if_icmp .lt n, 3) := by
  subst hn
  have h0 := tk_at h (i := 0) (by decide) rfl
  have h1 := tk_at h (i := 1) (by decide) rfl
  have h2 := tk_at h (i := 2) (by decide) rfl
  rw [Nat.add_zero] at h0
  have e : (Jvm.ClassFile.Decoder.instr pc).runAt c pc = .ok (.if_icmp .lt (Jvm.ClassFile.Reader.signed 16 (b1.toNat * 256 + b2.toNat)), pc + 3) := by
    show (Jvm.ClassFile.Decoder.instr pc) c pc = _
    unfold Jvm.ClassFile.Decoder.instr
    show (Except.bind (Jvm.ClassFile.Reader.u1 c pc) _) = _
    rw [u1_at h0]
    show (Except.bind (Except.map _ (Except.bind (Jvm.ClassFile.Reader.u1 c (pc + 1)) _)) _) = _
    rw [u1_at h1]
    show (Except.bind (Except.map _ (Except.bind (Jvm.ClassFile.Reader.u1 c (pc + 1 + 1)) _)) _) = _
    rw [u1_at h2]
    rfl
  unfold decode
  rw [e]
  show Except.ok (_, pc + 3 - pc) = _
  rw [Nat.add_sub_cancel_left]
theorem dq_160 {c : ByteArray} {pc : Nat} {b1 b2 : UInt8} {n : Int} (h : (c.data.toList.drop pc).take 3 = [160, b1, b2]) (hn : (Jvm.ClassFile.Reader.signed 16 (b1.toNat * 256 + b2.toNat)) = n) : decode c pc = .ok (.if_icmp .ne n, 3) := by
  subst hn
  have h0 := tk_at h (i := 0) (by decide) rfl
  have h1 := tk_at h (i := 1) (by decide) rfl
  have h2 := tk_at h (i := 2) (by decide) rfl
  rw [Nat.add_zero] at h0
  have e : (Jvm.ClassFile.Decoder.instr pc).runAt c pc = .ok (.if_icmp .ne (Jvm.ClassFile.Reader.signed 16 (b1.toNat * 256 + b2.toNat)), pc + 3) := by
    show (Jvm.ClassFile.Decoder.instr pc) c pc = _
    unfold Jvm.ClassFile.Decoder.instr
    show (Except.bind (Jvm.ClassFile.Reader.u1 c pc) _) = _
    rw [u1_at h0]
    show (Except.bind (Except.map _ (Except.bind (Jvm.ClassFile.Reader.u1 c (pc + 1)) _)) _) = _
    rw [u1_at h1]
    show (Except.bind (Except.map _ (Except.bind (Jvm.ClassFile.Reader.u1 c (pc + 1 + 1)) _)) _) = _
    rw [u1_at h2]
    rfl
  unfold decode
  rw [e]
  show Except.ok (_, pc + 3 - pc) = _
  rw [Nat.add_sub_cancel_left]
theorem dq_17 {c : ByteArray} {pc : Nat} {b1 b2 : UInt8} {n : Int} (h : (c.data.toList.drop pc).take 3 = [17, b1, b2]) (hn : (Jvm.ClassFile.Reader.signed 16 (b1.toNat * 256 + b2.toNat)) = n) : decode c pc = .ok (.sipush n, 3) := by
  subst hn
  have h0 := tk_at h (i := 0) (by decide) rfl
  have h1 := tk_at h (i := 1) (by decide) rfl
  have h2 := tk_at h (i := 2) (by decide) rfl
  rw [Nat.add_zero] at h0
  have e : (Jvm.ClassFile.Decoder.instr pc).runAt c pc = .ok (.sipush (Jvm.ClassFile.Reader.signed 16 (b1.toNat * 256 + b2.toNat)), pc + 3) := by
    show (Jvm.ClassFile.Decoder.instr pc) c pc = _
    unfold Jvm.ClassFile.Decoder.instr
    show (Except.bind (Jvm.ClassFile.Reader.u1 c pc) _) = _
    rw [u1_at h0]
    show (Except.bind (Except.map _ (Except.bind (Jvm.ClassFile.Reader.u1 c (pc + 1)) _)) _) = _
    rw [u1_at h1]
    show (Except.bind (Except.map _ (Except.bind (Jvm.ClassFile.Reader.u1 c (pc + 1 + 1)) _)) _) = _
    rw [u1_at h2]
    rfl
  unfold decode
  rw [e]
  show Except.ok (_, pc + 3 - pc) = _
  rw [Nat.add_sub_cancel_left]
theorem dq_25 {c : ByteArray} {pc : Nat} {b1 : UInt8} {n : Nat} (h : (c.data.toList.drop pc).take 2 = [25, b1]) (hn : b1.toNat = n) : decode c pc = .ok (.aload n, 2) := by
  subst hn
  have h0 := tk_at h (i := 0) (by decide) rfl
  have h1 := tk_at h (i := 1) (by decide) rfl
  rw [Nat.add_zero] at h0
  have e : (Jvm.ClassFile.Decoder.instr pc).runAt c pc = .ok (.aload b1.toNat, pc + 2) := by
    show (Jvm.ClassFile.Decoder.instr pc) c pc = _
    unfold Jvm.ClassFile.Decoder.instr
    show (Except.bind (Jvm.ClassFile.Reader.u1 c pc) _) = _
    rw [u1_at h0]
    show (Except.bind (Jvm.ClassFile.Reader.u1 c (pc + 1)) _) = _
    rw [u1_at h1]
    rfl
  unfold decode
  rw [e]
  show Except.ok (_, pc + 2 - pc) = _
  rw [Nat.add_sub_cancel_left]
theorem dq_58 {c : ByteArray} {pc : Nat} {b1 : UInt8} {n : Nat} (h : (c.data.toList.drop pc).take 2 = [58, b1]) (hn : b1.toNat = n) : decode c pc = .ok (.astore n, 2) := by
  subst hn
  have h0 := tk_at h (i := 0) (by decide) rfl
  have h1 := tk_at h (i := 1) (by decide) rfl
  rw [Nat.add_zero] at h0
  have e : (Jvm.ClassFile.Decoder.instr pc).runAt c pc = .ok (.astore b1.toNat, pc + 2) := by
    show (Jvm.ClassFile.Decoder.instr pc) c pc = _
    unfold Jvm.ClassFile.Decoder.instr
    show (Except.bind (Jvm.ClassFile.Reader.u1 c pc) _) = _
    rw [u1_at h0]
    show (Except.bind (Jvm.ClassFile.Reader.u1 c (pc + 1)) _) = _
    rw [u1_at h1]
    rfl
  unfold decode
  rw [e]
  show Except.ok (_, pc + 2 - pc) = _
  rw [Nat.add_sub_cancel_left]
theorem dq_21 {c : ByteArray} {pc : Nat} {b1 : UInt8} {n : Nat} (h : (c.data.toList.drop pc).take 2 = [21, b1]) (hn : b1.toNat = n) : decode c pc = .ok (.iload n, 2) := by
  subst hn
  have h0 := tk_at h (i := 0) (by decide) rfl
  have h1 := tk_at h (i := 1) (by decide) rfl
  rw [Nat.add_zero] at h0
  have e : (Jvm.ClassFile.Decoder.instr pc).runAt c pc = .ok (.iload b1.toNat, pc + 2) := by
    show (Jvm.ClassFile.Decoder.instr pc) c pc = _
    unfold Jvm.ClassFile.Decoder.instr
    show (Except.bind (Jvm.ClassFile.Reader.u1 c pc) _) = _
    rw [u1_at h0]
    show (Except.bind (Jvm.ClassFile.Reader.u1 c (pc + 1)) _) = _
    rw [u1_at h1]
    rfl
  unfold decode
  rw [e]
  show Except.ok (_, pc + 2 - pc) = _
  rw [Nat.add_sub_cancel_left]
theorem dq_54 {c : ByteArray} {pc : Nat} {b1 : UInt8} {n : Nat} (h : (c.data.toList.drop pc).take 2 = [54, b1]) (hn : b1.toNat = n) : decode c pc = .ok (.istore n, 2) := by
  subst hn
  have h0 := tk_at h (i := 0) (by decide) rfl
  have h1 := tk_at h (i := 1) (by decide) rfl
  rw [Nat.add_zero] at h0
  have e : (Jvm.ClassFile.Decoder.instr pc).runAt c pc = .ok (.istore b1.toNat, pc + 2) := by
    show (Jvm.ClassFile.Decoder.instr pc) c pc = _
    unfold Jvm.ClassFile.Decoder.instr
    show (Except.bind (Jvm.ClassFile.Reader.u1 c pc) _) = _
    rw [u1_at h0]
    show (Except.bind (Jvm.ClassFile.Reader.u1 c (pc + 1)) _) = _
    rw [u1_at h1]
    rfl
  unfold decode
  rw [e]
  show Except.ok (_, pc + 2 - pc) = _
  rw [Nat.add_sub_cancel_left]
theorem dq_18 {c : ByteArray} {pc : Nat} {b1 : UInt8} {n : Nat} (h : (c.data.toList.drop pc).take 2 = [18, b1]) (hn : b1.toNat = n) : decode c pc = .ok (.ldc n, 2) := by
  subst hn
  have h0 := tk_at h (i := 0) (by decide) rfl
  have h1 := tk_at h (i := 1) (by decide) rfl
  rw [Nat.add_zero] at h0
  have e : (Jvm.ClassFile.Decoder.instr pc).runAt c pc = .ok (.ldc b1.toNat, pc + 2) := by
    show (Jvm.ClassFile.Decoder.instr pc) c pc = _
    unfold Jvm.ClassFile.Decoder.instr
    show (Except.bind (Jvm.ClassFile.Reader.u1 c pc) _) = _
    rw [u1_at h0]
    show (Except.bind (Jvm.ClassFile.Reader.u1 c (pc + 1)) _) = _
    rw [u1_at h1]
    rfl
  unfold decode
  rw [e]
  show Except.ok (_, pc + 2 - pc) = _
  rw [Nat.add_sub_cancel_left]
theorem dq_22 {c : ByteArray} {pc : Nat} {b1 : UInt8} {n : Nat} (h : (c.data.toList.drop pc).take 2 = [22, b1]) (hn : b1.toNat = n) : decode c pc = .ok (.lload n, 2) := by
  subst hn
  have h0 := tk_at h (i := 0) (by decide) rfl
  have h1 := tk_at h (i := 1) (by decide) rfl
  rw [Nat.add_zero] at h0
  have e : (Jvm.ClassFile.Decoder.instr pc).runAt c pc = .ok (.lload b1.toNat, pc + 2) := by
    show (Jvm.ClassFile.Decoder.instr pc) c pc = _
    unfold Jvm.ClassFile.Decoder.instr
    show (Except.bind (Jvm.ClassFile.Reader.u1 c pc) _) = _
    rw [u1_at h0]
    show (Except.bind (Jvm.ClassFile.Reader.u1 c (pc + 1)) _) = _
    rw [u1_at h1]
    rfl
  unfold decode
  rw [e]
  show Except.ok (_, pc + 2 - pc) = _
  rw [Nat.add_sub_cancel_left]
theorem dq_55 {c : ByteArray} {pc : Nat} {b1 : UInt8} {n : Nat} (h : (c.data.toList.drop pc).take 2 = [55, b1]) (hn : b1.toNat = n) : decode c pc = .ok (.lstore n, 2) := by
  subst hn
  have h0 := tk_at h (i := 0) (by decide) rfl
  have h1 := tk_at h (i := 1) (by decide) rfl
  rw [Nat.add_zero] at h0
  have e : (Jvm.ClassFile.Decoder.instr pc).runAt c pc = .ok (.lstore b1.toNat, pc + 2) := by
    show (Jvm.ClassFile.Decoder.instr pc) c pc = _
    unfold Jvm.ClassFile.Decoder.instr
    show (Except.bind (Jvm.ClassFile.Reader.u1 c pc) _) = _
    rw [u1_at h0]
    show (Except.bind (Jvm.ClassFile.Reader.u1 c (pc + 1)) _) = _
    rw [u1_at h1]
    rfl
  unfold decode
  rw [e]
  show Except.ok (_, pc + 2 - pc) = _
  rw [Nat.add_sub_cancel_left]
theorem dq_189 {c : ByteArray} {pc : Nat} {b1 b2 : UInt8} {n : Nat} (h : (c.data.toList.drop pc).take 3 = [189, b1, b2]) (hn : (b1.toNat * 256 + b2.toNat) = n) : decode c pc = .ok (.anewarray n, 3) := by
  subst hn
  have h0 := tk_at h (i := 0) (by decide) rfl
  have h1 := tk_at h (i := 1) (by decide) rfl
  have h2 := tk_at h (i := 2) (by decide) rfl
  rw [Nat.add_zero] at h0
  have e : (Jvm.ClassFile.Decoder.instr pc).runAt c pc = .ok (.anewarray (b1.toNat * 256 + b2.toNat), pc + 3) := by
    show (Jvm.ClassFile.Decoder.instr pc) c pc = _
    unfold Jvm.ClassFile.Decoder.instr
    show (Except.bind (Jvm.ClassFile.Reader.u1 c pc) _) = _
    rw [u1_at h0]
    show (Except.bind (Except.bind (Jvm.ClassFile.Reader.u1 c (pc + 1)) _) _) = _
    rw [u1_at h1]
    show (Except.bind (Except.bind (Jvm.ClassFile.Reader.u1 c (pc + 1 + 1)) _) _) = _
    rw [u1_at h2]
    rfl
  unfold decode
  rw [e]
  show Except.ok (_, pc + 3 - pc) = _
  rw [Nat.add_sub_cancel_left]
theorem dq_180 {c : ByteArray} {pc : Nat} {b1 b2 : UInt8} {n : Nat} (h : (c.data.toList.drop pc).take 3 = [180, b1, b2]) (hn : (b1.toNat * 256 + b2.toNat) = n) : decode c pc = .ok (.getfield n, 3) := by
  subst hn
  have h0 := tk_at h (i := 0) (by decide) rfl
  have h1 := tk_at h (i := 1) (by decide) rfl
  have h2 := tk_at h (i := 2) (by decide) rfl
  rw [Nat.add_zero] at h0
  have e : (Jvm.ClassFile.Decoder.instr pc).runAt c pc = .ok (.getfield (b1.toNat * 256 + b2.toNat), pc + 3) := by
    show (Jvm.ClassFile.Decoder.instr pc) c pc = _
    unfold Jvm.ClassFile.Decoder.instr
    show (Except.bind (Jvm.ClassFile.Reader.u1 c pc) _) = _
    rw [u1_at h0]
    show (Except.bind (Except.bind (Jvm.ClassFile.Reader.u1 c (pc + 1)) _) _) = _
    rw [u1_at h1]
    show (Except.bind (Except.bind (Jvm.ClassFile.Reader.u1 c (pc + 1 + 1)) _) _) = _
    rw [u1_at h2]
    rfl
  unfold decode
  rw [e]
  show Except.ok (_, pc + 3 - pc) = _
  rw [Nat.add_sub_cancel_left]
theorem dq_178 {c : ByteArray} {pc : Nat} {b1 b2 : UInt8} {n : Nat} (h : (c.data.toList.drop pc).take 3 = [178, b1, b2]) (hn : (b1.toNat * 256 + b2.toNat) = n) : decode c pc = .ok (.getstatic n, 3) := by
  subst hn
  have h0 := tk_at h (i := 0) (by decide) rfl
  have h1 := tk_at h (i := 1) (by decide) rfl
  have h2 := tk_at h (i := 2) (by decide) rfl
  rw [Nat.add_zero] at h0
  have e : (Jvm.ClassFile.Decoder.instr pc).runAt c pc = .ok (.getstatic (b1.toNat * 256 + b2.toNat), pc + 3) := by
    show (Jvm.ClassFile.Decoder.instr pc) c pc = _
    unfold Jvm.ClassFile.Decoder.instr
    show (Except.bind (Jvm.ClassFile.Reader.u1 c pc) _) = _
    rw [u1_at h0]
    show (Except.bind (Except.bind (Jvm.ClassFile.Reader.u1 c (pc + 1)) _) _) = _
    rw [u1_at h1]
    show (Except.bind (Except.bind (Jvm.ClassFile.Reader.u1 c (pc + 1 + 1)) _) _) = _
    rw [u1_at h2]
    rfl
  unfold decode
  rw [e]
  show Except.ok (_, pc + 3 - pc) = _
  rw [Nat.add_sub_cancel_left]
theorem dq_183 {c : ByteArray} {pc : Nat} {b1 b2 : UInt8} {n : Nat} (h : (c.data.toList.drop pc).take 3 = [183, b1, b2]) (hn : (b1.toNat * 256 + b2.toNat) = n) : decode c pc = .ok (.invokespecial n, 3) := by
  subst hn
  have h0 := tk_at h (i := 0) (by decide) rfl
  have h1 := tk_at h (i := 1) (by decide) rfl
  have h2 := tk_at h (i := 2) (by decide) rfl
  rw [Nat.add_zero] at h0
  have e : (Jvm.ClassFile.Decoder.instr pc).runAt c pc = .ok (.invokespecial (b1.toNat * 256 + b2.toNat), pc + 3) := by
    show (Jvm.ClassFile.Decoder.instr pc) c pc = _
    unfold Jvm.ClassFile.Decoder.instr
    show (Except.bind (Jvm.ClassFile.Reader.u1 c pc) _) = _
    rw [u1_at h0]
    show (Except.bind (Except.bind (Jvm.ClassFile.Reader.u1 c (pc + 1)) _) _) = _
    rw [u1_at h1]
    show (Except.bind (Except.bind (Jvm.ClassFile.Reader.u1 c (pc + 1 + 1)) _) _) = _
    rw [u1_at h2]
    rfl
  unfold decode
  rw [e]
  show Except.ok (_, pc + 3 - pc) = _
  rw [Nat.add_sub_cancel_left]
theorem dq_184 {c : ByteArray} {pc : Nat} {b1 b2 : UInt8} {n : Nat} (h : (c.data.toList.drop pc).take 3 = [184, b1, b2]) (hn : (b1.toNat * 256 + b2.toNat) = n) : decode c pc = .ok (.invokestatic n, 3) := by
  subst hn
  have h0 := tk_at h (i := 0) (by decide) rfl
  have h1 := tk_at h (i := 1) (by decide) rfl
  have h2 := tk_at h (i := 2) (by decide) rfl
  rw [Nat.add_zero] at h0
  have e : (Jvm.ClassFile.Decoder.instr pc).runAt c pc = .ok (.invokestatic (b1.toNat * 256 + b2.toNat), pc + 3) := by
    show (Jvm.ClassFile.Decoder.instr pc) c pc = _
    unfold Jvm.ClassFile.Decoder.instr
    show (Except.bind (Jvm.ClassFile.Reader.u1 c pc) _) = _
    rw [u1_at h0]
    show (Except.bind (Except.bind (Jvm.ClassFile.Reader.u1 c (pc + 1)) _) _) = _
    rw [u1_at h1]
    show (Except.bind (Except.bind (Jvm.ClassFile.Reader.u1 c (pc + 1 + 1)) _) _) = _
    rw [u1_at h2]
    rfl
  unfold decode
  rw [e]
  show Except.ok (_, pc + 3 - pc) = _
  rw [Nat.add_sub_cancel_left]
theorem dq_182 {c : ByteArray} {pc : Nat} {b1 b2 : UInt8} {n : Nat} (h : (c.data.toList.drop pc).take 3 = [182, b1, b2]) (hn : (b1.toNat * 256 + b2.toNat) = n) : decode c pc = .ok (.invokevirtual n, 3) := by
  subst hn
  have h0 := tk_at h (i := 0) (by decide) rfl
  have h1 := tk_at h (i := 1) (by decide) rfl
  have h2 := tk_at h (i := 2) (by decide) rfl
  rw [Nat.add_zero] at h0
  have e : (Jvm.ClassFile.Decoder.instr pc).runAt c pc = .ok (.invokevirtual (b1.toNat * 256 + b2.toNat), pc + 3) := by
    show (Jvm.ClassFile.Decoder.instr pc) c pc = _
    unfold Jvm.ClassFile.Decoder.instr
    show (Except.bind (Jvm.ClassFile.Reader.u1 c pc) _) = _
    rw [u1_at h0]
    show (Except.bind (Except.bind (Jvm.ClassFile.Reader.u1 c (pc + 1)) _) _) = _
    rw [u1_at h1]
    show (Except.bind (Except.bind (Jvm.ClassFile.Reader.u1 c (pc + 1 + 1)) _) _) = _
    rw [u1_at h2]
    rfl
  unfold decode
  rw [e]
  show Except.ok (_, pc + 3 - pc) = _
  rw [Nat.add_sub_cancel_left]
theorem dq_20 {c : ByteArray} {pc : Nat} {b1 b2 : UInt8} {n : Nat} (h : (c.data.toList.drop pc).take 3 = [20, b1, b2]) (hn : (b1.toNat * 256 + b2.toNat) = n) : decode c pc = .ok (.ldc2_w n, 3) := by
  subst hn
  have h0 := tk_at h (i := 0) (by decide) rfl
  have h1 := tk_at h (i := 1) (by decide) rfl
  have h2 := tk_at h (i := 2) (by decide) rfl
  rw [Nat.add_zero] at h0
  have e : (Jvm.ClassFile.Decoder.instr pc).runAt c pc = .ok (.ldc2_w (b1.toNat * 256 + b2.toNat), pc + 3) := by
    show (Jvm.ClassFile.Decoder.instr pc) c pc = _
    unfold Jvm.ClassFile.Decoder.instr
    show (Except.bind (Jvm.ClassFile.Reader.u1 c pc) _) = _
    rw [u1_at h0]
    show (Except.bind (Except.bind (Jvm.ClassFile.Reader.u1 c (pc + 1)) _) _) = _
    rw [u1_at h1]
    show (Except.bind (Except.bind (Jvm.ClassFile.Reader.u1 c (pc + 1 + 1)) _) _) = _
    rw [u1_at h2]
    rfl
  unfold decode
  rw [e]
  show Except.ok (_, pc + 3 - pc) = _
  rw [Nat.add_sub_cancel_left]
theorem dq_19 {c : ByteArray} {pc : Nat} {b1 b2 : UInt8} {n : Nat} (h : (c.data.toList.drop pc).take 3 = [19, b1, b2]) (hn : (b1.toNat * 256 + b2.toNat) = n) : decode c pc = .ok (.ldc_w n, 3) := by
  subst hn
  have h0 := tk_at h (i := 0) (by decide) rfl
  have h1 := tk_at h (i := 1) (by decide) rfl
  have h2 := tk_at h (i := 2) (by decide) rfl
  rw [Nat.add_zero] at h0
  have e : (Jvm.ClassFile.Decoder.instr pc).runAt c pc = .ok (.ldc_w (b1.toNat * 256 + b2.toNat), pc + 3) := by
    show (Jvm.ClassFile.Decoder.instr pc) c pc = _
    unfold Jvm.ClassFile.Decoder.instr
    show (Except.bind (Jvm.ClassFile.Reader.u1 c pc) _) = _
    rw [u1_at h0]
    show (Except.bind (Except.bind (Jvm.ClassFile.Reader.u1 c (pc + 1)) _) _) = _
    rw [u1_at h1]
    show (Except.bind (Except.bind (Jvm.ClassFile.Reader.u1 c (pc + 1 + 1)) _) _) = _
    rw [u1_at h2]
    rfl
  unfold decode
  rw [e]
  show Except.ok (_, pc + 3 - pc) = _
  rw [Nat.add_sub_cancel_left]
theorem dq_187 {c : ByteArray} {pc : Nat} {b1 b2 : UInt8} {n : Nat} (h : (c.data.toList.drop pc).take 3 = [187, b1, b2]) (hn : (b1.toNat * 256 + b2.toNat) = n) : decode c pc = .ok (.new n, 3) := by
  subst hn
  have h0 := tk_at h (i := 0) (by decide) rfl
  have h1 := tk_at h (i := 1) (by decide) rfl
  have h2 := tk_at h (i := 2) (by decide) rfl
  rw [Nat.add_zero] at h0
  have e : (Jvm.ClassFile.Decoder.instr pc).runAt c pc = .ok (.new (b1.toNat * 256 + b2.toNat), pc + 3) := by
    show (Jvm.ClassFile.Decoder.instr pc) c pc = _
    unfold Jvm.ClassFile.Decoder.instr
    show (Except.bind (Jvm.ClassFile.Reader.u1 c pc) _) = _
    rw [u1_at h0]
    show (Except.bind (Except.bind (Jvm.ClassFile.Reader.u1 c (pc + 1)) _) _) = _
    rw [u1_at h1]
    show (Except.bind (Except.bind (Jvm.ClassFile.Reader.u1 c (pc + 1 + 1)) _) _) = _
    rw [u1_at h2]
    rfl
  unfold decode
  rw [e]
  show Except.ok (_, pc + 3 - pc) = _
  rw [Nat.add_sub_cancel_left]
theorem dq_181 {c : ByteArray} {pc : Nat} {b1 b2 : UInt8} {n : Nat} (h : (c.data.toList.drop pc).take 3 = [181, b1, b2]) (hn : (b1.toNat * 256 + b2.toNat) = n) : decode c pc = .ok (.putfield n, 3) := by
  subst hn
  have h0 := tk_at h (i := 0) (by decide) rfl
  have h1 := tk_at h (i := 1) (by decide) rfl
  have h2 := tk_at h (i := 2) (by decide) rfl
  rw [Nat.add_zero] at h0
  have e : (Jvm.ClassFile.Decoder.instr pc).runAt c pc = .ok (.putfield (b1.toNat * 256 + b2.toNat), pc + 3) := by
    show (Jvm.ClassFile.Decoder.instr pc) c pc = _
    unfold Jvm.ClassFile.Decoder.instr
    show (Except.bind (Jvm.ClassFile.Reader.u1 c pc) _) = _
    rw [u1_at h0]
    show (Except.bind (Except.bind (Jvm.ClassFile.Reader.u1 c (pc + 1)) _) _) = _
    rw [u1_at h1]
    show (Except.bind (Except.bind (Jvm.ClassFile.Reader.u1 c (pc + 1 + 1)) _) _) = _
    rw [u1_at h2]
    rfl
  unfold decode
  rw [e]
  show Except.ok (_, pc + 3 - pc) = _
  rw [Nat.add_sub_cancel_left]
-- 10.level_d
/-! a level, exactly. The class: v0 cells, v1 mill, v2 reach, v3 cap, hh hour, v5 meal, ww winds, kk sounds, g1 winds, g2 kinds, g3 places, g4 louds, g5 hows. The other side: one row of 38. -/
noncomputable abbrev RF := Nat → Int32
/-- the sounds (bits) that are so -/
noncomputable def thR (h : RF) (n : Int32) : Nat → Int32
  | 0 => 0
  | i + 1 => thR h n i ||| (if h i = n then (1 : Int32) <<< (nI i &&& 31) else 0)
noncomputable def ldR (g : RF) (n : Int32) : Nat → Int32
  | 0 => 0
  | i + 1 => ldR g n i + (if n >>> (nI i &&& 31) &&& 1 = 1 then g i else 0)
noncomputable def tlX (g3 g4 g5 : RF) (i : Nat) (n : Int32) : Int32 := if n = 0 then (if g5 i = 0 then g3 i else -1000000) else if n = 1 then g5 i else g4 i
noncomputable def wdX (g1 : RF) (ww hh j : Nat) : Int32 := if ww = 0 then 2 else g1 ((hh + j) % ww)
noncomputable def dfX (k u : Int32) : Int32 := if k = 1 then u else if k = 2 then u / 2 else if k = 3 then u * 2 else if k = 4 then -u else 0
noncomputable def lbX (k l : Int32) : Int32 := if k = 4 then l - 1 else if k = 5 then (if 20 < l + 1 then 20 else l + 1) else l
noncomputable def frX (v1 v3 n : Int32) : Int32 := if v3 = 1 then n - v1 else v1 - n
noncomputable abbrev grX (v1 v2 v3 n k : Int32) : Prop := ¬ k = 2 ∧ ¬ frX v1 v3 n < 0 ∧ ¬ v2 < frX v1 v3 n
/-- meal, places, louds, hows -/
noncomputable abbrev LSt := Int32 × RF × RF × RF
noncomputable def cX (g2 : RF) (i : Nat) (n : Int32) (s : LSt) : Int32 := s.2.1 i + dfX (g2 i) (n - 2)
noncomputable def lX (g2 : RF) (i : Nat) (s : LSt) : Int32 := lbX (g2 i) (s.2.2.1 i)
noncomputable def limX (m l : Int32) : Int32 := if 999 < m + l then 999 else m + l
noncomputable abbrev loX (v0 : Int32) (g2 : RF) (i : Nat) (n : Int32) (s : LSt) : Prop := (cX g2 i n s < 0 ∨ v0 ≤ cX g2 i n s) ∨ lX g2 i s ≤ 0
/-- one sound, one hour -/
noncomputable def psX (v0 v1 v2 v3 : Int32) (g2 : RF) (i : Nat) (n : Int32) (s : LSt) : LSt :=
  if ¬ s.2.2.2 i = 0 then s
  else if loX v0 g2 i n s then (s.1, s.2.1, s.2.2.1, upd s.2.2.2 i 2)
  else if grX v1 v2 v3 (cX g2 i n s) n then (limX s.1 (lX g2 i s), upd s.2.1 i (cX g2 i n s), upd s.2.2.1 i (lX g2 i s), upd (upd s.2.2.2 i 0) i 1)
  else (s.1, upd s.2.1 i (cX g2 i n s), upd s.2.2.1 i (lX g2 i s), upd s.2.2.2 i 0)
/-- the first i sounds -/
noncomputable def paX (v0 v1 v2 v3 : Int32) (g2 : RF) (n : Int32) : Nat → LSt → LSt
  | 0, s => s
  | i + 1, s => psX v0 v1 v2 v3 g2 i n (paX v0 v1 v2 v3 g2 n i s)
/-- one sound, hours -/
noncomputable def poX (v0 v1 v2 v3 : Int32) (g1 : RF) (ww hh : Nat) (g2 : RF) (i : Nat) : Nat → LSt → LSt
  | 0, s => s
  | t + 1, s => psX v0 v1 v2 v3 g2 i (wdX g1 ww (hh + t) 0) (poX v0 v1 v2 v3 g1 ww hh g2 i t s)
/-- all, hours -/
noncomputable def pmX (v0 v1 v2 v3 : Int32) (g1 : RF) (ww hh kk : Nat) (g2 : RF) : Nat → LSt → LSt
  | 0, s => s
  | t + 1, s => paX v0 v1 v2 v3 g2 (wdX g1 ww (hh + t) 0) kk (pmX v0 v1 v2 v3 g1 ww hh kk g2 t s)
/-- the wind of this hour the other way -/
noncomputable def twX (g1 : RF) (ww hh : Nat) : RF := if ww = 0 then g1 else upd g1 (hh % ww) (4 - g1 (hh % ww))
theorem cpy6 {f g : RF} {j : Nat} (h : j < 6) : va_cpy f g (0 : Int32).toNatClampNeg (0 : Int32).toNatClampNeg (6 : Int32).toNatClampNeg j = f j := by
  have h2 := pk_cpy_in (f := f) (g := g) (sp := 0) (dp := 0) (n := 6) (j := j) (Nat.zero_le _) (by omega)
  rw [Nat.zero_add, Nat.sub_zero] at h2
  exact h2
/-! the other side's, on its row -/
noncomputable def dfM (k u : Int32) : Int32 := if k = 1 then u else if k = 2 then u / 2 else if k = 3 then 2 * u else if k = 4 then -u else 0
noncomputable def lbM (k l : Int32) : Int32 := if k = 4 then l - 1 else if k = 5 ∧ l < 20 then l + 1 else l
noncomputable abbrev iC (c n : Int32) : Prop := ¬ n < 0 ∧ ¬ c - 1 < n
noncomputable def toM (f : RF) (i : Nat) (n : Int32) : Int32 := f (20 + i) + dfM (f (14 + i)) n
noncomputable def loM (f : RF) (i : Nat) : Int32 := lbM (f (14 + i)) (f (32 + i))
noncomputable abbrev lostM (f : RF) (i : Nat) (n : Int32) : Prop := ¬ iC (f 0) (toM f i n) ∨ loM f i = 0
noncomputable def mDr (f : RF) (i : Nat) (n : Int32) : RF := if lostM f i n then upd f (26 + i) 2 else upd (upd (upd f (26 + i) 0) (20 + i) (toM f i n)) (32 + i) (loM f i)
noncomputable def ofM (f : RF) (i : Nat) : Int32 := if f 6 = 1 then f (20 + i) - f 1 else f 1 - f (20 + i)
noncomputable abbrev amM (f : RF) (i : Nat) : Prop := ¬ ofM f i < 0 ∧ ¬ f 2 < ofM f i
noncomputable def mD1 (f : RF) (i : Nat) (n : Int32) : RF := if f (26 + i) = 0 then mDr f i n else f
/-- the row, and what is ground -/
noncomputable abbrev MG := RF × Int32
noncomputable def mSt (n : Int32) (i : Nat) (s : MG) : MG := if mD1 s.1 i n (26 + i) = 0 ∧ ¬ n = 0 ∧ amM (mD1 s.1 i n) i then (upd (mD1 s.1 i n) (26 + i) 1, s.2 + mD1 s.1 i n (32 + i)) else (mD1 s.1 i n, s.2)
noncomputable def mHs (n : Int32) : Nat → MG → MG
  | 0, s => s
  | i + 1, s => mSt n i (mHs n i s)
noncomputable def mLs (s : MG) : RF := upd (upd s.1 7 (limX (s.1 7) s.2)) 5 (s.1 5 + 1)
noncomputable def mW (f : RF) : Int32 := f (8 + (f 5).toNatClampNeg % (f 3).toNatClampNeg)
/-- an hour -/
noncomputable def mH (f : RF) : RF := mLs (mHs (mW f - 2) (f 4).toNatClampNeg (f, 0))
noncomputable def mGo : Nat → RF → RF
  | 0, f => f
  | t + 1, f => mH (mGo t f)
/-! a level as a row of 38, what is not used 0 -/
noncomputable def nrm (v0 v1 v2 v3 : Int32) (hh : Nat) (v5 : Int32) (ww kk : Nat) (g1 g2 g3 g4 g5 : RF) : RF := fun j => if j = 0 then v0 else if j = 1 then v1 else if j = 2 then v2 else if j = 3 then nI ww else if j = 4 then nI kk else if j = 5 then nI hh else if j = 6 then v3 else if j = 7 then v5 else if j < 14 then (if j < 8 + ww then g1 (j - 8) else 0) else if j < 20 then (if j < 14 + kk then g2 (j - 14) else 0) else if j < 26 then (if j < 20 + kk then g3 (j - 20) else 0) else if j < 32 then (if j < 26 + kk then g5 (j - 26) else 0) else if j < 38 then (if j < 32 + kk then g4 (j - 32) else 0) else 0
noncomputable def m38 (f : Nat → Int32) : Nat → Int32 := fun j => if j < 38 then f j else 0
theorem m38_up {f : Nat → Int32} {i : Nat} {v : Int32} (hi : i < 38) : m38 (upd f i v) = upd (m38 f) i v := by
  funext j
  unfold m38 upd
  grind
theorem m38_at {f : Nat → Int32} {i : Nat} (hi : i < 38) : m38 f i = f i := if_pos hi
section NRM
variable {v0 v1 v2 v3 v5 : Int32} {hh ww kk : Nat} {g1 g2 g3 g4 g5 : RF}
theorem nr0 : nrm v0 v1 v2 v3 hh v5 ww kk g1 g2 g3 g4 g5 0 = v0 := rfl
theorem nr1 : nrm v0 v1 v2 v3 hh v5 ww kk g1 g2 g3 g4 g5 1 = v1 := rfl
theorem nr2 : nrm v0 v1 v2 v3 hh v5 ww kk g1 g2 g3 g4 g5 2 = v2 := rfl
theorem nr3 : nrm v0 v1 v2 v3 hh v5 ww kk g1 g2 g3 g4 g5 3 = nI ww := rfl
theorem nr4 : nrm v0 v1 v2 v3 hh v5 ww kk g1 g2 g3 g4 g5 4 = nI kk := rfl
theorem nr5 : nrm v0 v1 v2 v3 hh v5 ww kk g1 g2 g3 g4 g5 5 = nI hh := rfl
theorem nr6 : nrm v0 v1 v2 v3 hh v5 ww kk g1 g2 g3 g4 g5 6 = v3 := rfl
theorem nr7 : nrm v0 v1 v2 v3 hh v5 ww kk g1 g2 g3 g4 g5 7 = v5 := rfl
theorem nrg1 {i : Nat} (hi : i < ww) (hw : ww ≤ 6) : nrm v0 v1 v2 v3 hh v5 ww kk g1 g2 g3 g4 g5 (8 + i) = g1 i := by
  unfold nrm
  rw [if_neg (by omega), if_neg (by omega), if_neg (by omega), if_neg (by omega), if_neg (by omega), if_neg (by omega), if_neg (by omega), if_neg (by omega), if_pos (by omega), if_pos (by omega), Nat.add_sub_cancel_left]
theorem nrg2 {i : Nat} (hi : i < kk) (hk : kk ≤ 6) : nrm v0 v1 v2 v3 hh v5 ww kk g1 g2 g3 g4 g5 (14 + i) = g2 i := by
  unfold nrm
  rw [if_neg (by omega), if_neg (by omega), if_neg (by omega), if_neg (by omega), if_neg (by omega), if_neg (by omega), if_neg (by omega), if_neg (by omega), if_neg (by omega), if_pos (by omega), if_pos (by omega), Nat.add_sub_cancel_left]
theorem nrg3 {i : Nat} (hi : i < kk) (hk : kk ≤ 6) : nrm v0 v1 v2 v3 hh v5 ww kk g1 g2 g3 g4 g5 (20 + i) = g3 i := by
  unfold nrm
  rw [if_neg (by omega), if_neg (by omega), if_neg (by omega), if_neg (by omega), if_neg (by omega), if_neg (by omega), if_neg (by omega), if_neg (by omega), if_neg (by omega), if_neg (by omega), if_pos (by omega), if_pos (by omega), Nat.add_sub_cancel_left]
theorem nrg5 {i : Nat} (hi : i < kk) (hk : kk ≤ 6) : nrm v0 v1 v2 v3 hh v5 ww kk g1 g2 g3 g4 g5 (26 + i) = g5 i := by
  unfold nrm
  rw [if_neg (by omega), if_neg (by omega), if_neg (by omega), if_neg (by omega), if_neg (by omega), if_neg (by omega), if_neg (by omega), if_neg (by omega), if_neg (by omega), if_neg (by omega), if_neg (by omega), if_pos (by omega), if_pos (by omega), Nat.add_sub_cancel_left]
theorem nrg4 {i : Nat} (hi : i < kk) (hk : kk ≤ 6) : nrm v0 v1 v2 v3 hh v5 ww kk g1 g2 g3 g4 g5 (32 + i) = g4 i := by
  unfold nrm
  rw [if_neg (by omega), if_neg (by omega), if_neg (by omega), if_neg (by omega), if_neg (by omega), if_neg (by omega), if_neg (by omega), if_neg (by omega), if_neg (by omega), if_neg (by omega), if_neg (by omega), if_neg (by omega), if_pos (by omega), if_pos (by omega), Nat.add_sub_cancel_left]
theorem nru1 {x : Int32} : upd (nrm v0 v1 v2 v3 hh v5 ww kk g1 g2 g3 g4 g5) 1 x = nrm v0 x v2 v3 hh v5 ww kk g1 g2 g3 g4 g5 := by
  funext j
  unfold nrm upd
  grind
theorem nru2 {x : Int32} : upd (nrm v0 v1 v2 v3 hh v5 ww kk g1 g2 g3 g4 g5) 2 x = nrm v0 v1 x v3 hh v5 ww kk g1 g2 g3 g4 g5 := by
  funext j
  unfold nrm upd
  grind
theorem nru5 {n : Nat} : upd (nrm v0 v1 v2 v3 hh v5 ww kk g1 g2 g3 g4 g5) 5 (nI n) = nrm v0 v1 v2 v3 n v5 ww kk g1 g2 g3 g4 g5 := by
  funext j
  unfold nrm upd
  grind
theorem nru6 {x : Int32} : upd (nrm v0 v1 v2 v3 hh v5 ww kk g1 g2 g3 g4 g5) 6 x = nrm v0 v1 v2 x hh v5 ww kk g1 g2 g3 g4 g5 := by
  funext j
  unfold nrm upd
  grind
theorem nru7 {x : Int32} : upd (nrm v0 v1 v2 v3 hh v5 ww kk g1 g2 g3 g4 g5) 7 x = nrm v0 v1 v2 v3 hh x ww kk g1 g2 g3 g4 g5 := by
  funext j
  unfold nrm upd
  grind
theorem nr_cg {f1 f2 f3 f4 f5 : RF} {j : Nat} (e1 : ∀ i : Nat, i < ww → 8 + i = j → f1 i = g1 i) (e2 : ∀ i : Nat, i < kk → 14 + i = j → f2 i = g2 i) (e3 : ∀ i : Nat, i < kk → 20 + i = j → f3 i = g3 i) (e4 : ∀ i : Nat, i < kk → 32 + i = j → f4 i = g4 i) (e5 : ∀ i : Nat, i < kk → 26 + i = j → f5 i = g5 i) : nrm v0 v1 v2 v3 hh v5 ww kk f1 f2 f3 f4 f5 j = nrm v0 v1 v2 v3 hh v5 ww kk g1 g2 g3 g4 g5 j := by
  unfold nrm
  exact ite_congr rfl (fun _ => rfl) (fun h0 => ite_congr rfl (fun _ => rfl) (fun h1 => ite_congr rfl (fun _ => rfl) (fun h2 => ite_congr rfl (fun _ => rfl) (fun h3 => ite_congr rfl (fun _ => rfl) (fun h4 => ite_congr rfl (fun _ => rfl) (fun h5 => ite_congr rfl (fun _ => rfl) (fun h6 => ite_congr rfl (fun _ => rfl) (fun h7 => ite_congr rfl (fun a => ite_congr rfl (fun b => e1 _ (by omega) (by omega)) (fun _ => rfl)) (fun h8 => ite_congr rfl (fun a => ite_congr rfl (fun b => e2 _ (by omega) (by omega)) (fun _ => rfl)) (fun h9 => ite_congr rfl (fun a => ite_congr rfl (fun b => e3 _ (by omega) (by omega)) (fun _ => rfl)) (fun h10 => ite_congr rfl (fun a => ite_congr rfl (fun b => e5 _ (by omega) (by omega)) (fun _ => rfl)) (fun h11 => ite_congr rfl (fun a => ite_congr rfl (fun b => e4 _ (by omega) (by omega)) (fun _ => rfl)) (fun _ => rfl)))))))))))))
theorem nrug1 {i : Nat} {x : Int32} (hi : i < ww) (hw : ww ≤ 6) : upd (nrm v0 v1 v2 v3 hh v5 ww kk g1 g2 g3 g4 g5) (8 + i) x = nrm v0 v1 v2 v3 hh v5 ww kk (upd g1 i x) g2 g3 g4 g5 := by
  funext j
  by_cases e : j = 8 + i
  · subst e
    rw [pk_us, nrg1 hi hw, pk_us]
  · rw [pk_un e]
    exact nr_cg (fun z hz ez => (pk_un (by omega)).symm) (fun z hz ez => rfl) (fun z hz ez => rfl) (fun z hz ez => rfl) (fun z hz ez => rfl)
theorem nrug2 {i : Nat} {x : Int32} (hi : i < kk) (hk : kk ≤ 6) : upd (nrm v0 v1 v2 v3 hh v5 ww kk g1 g2 g3 g4 g5) (14 + i) x = nrm v0 v1 v2 v3 hh v5 ww kk g1 (upd g2 i x) g3 g4 g5 := by
  funext j
  by_cases e : j = 14 + i
  · subst e
    rw [pk_us, nrg2 hi hk, pk_us]
  · rw [pk_un e]
    exact nr_cg (fun z hz ez => rfl) (fun z hz ez => (pk_un (by omega)).symm) (fun z hz ez => rfl) (fun z hz ez => rfl) (fun z hz ez => rfl)
theorem nrug3 {i : Nat} {x : Int32} (hi : i < kk) (hk : kk ≤ 6) : upd (nrm v0 v1 v2 v3 hh v5 ww kk g1 g2 g3 g4 g5) (20 + i) x = nrm v0 v1 v2 v3 hh v5 ww kk g1 g2 (upd g3 i x) g4 g5 := by
  funext j
  by_cases e : j = 20 + i
  · subst e
    rw [pk_us, nrg3 hi hk, pk_us]
  · rw [pk_un e]
    exact nr_cg (fun z hz ez => rfl) (fun z hz ez => rfl) (fun z hz ez => (pk_un (by omega)).symm) (fun z hz ez => rfl) (fun z hz ez => rfl)
theorem nrug5 {i : Nat} {x : Int32} (hi : i < kk) (hk : kk ≤ 6) : upd (nrm v0 v1 v2 v3 hh v5 ww kk g1 g2 g3 g4 g5) (26 + i) x = nrm v0 v1 v2 v3 hh v5 ww kk g1 g2 g3 g4 (upd g5 i x) := by
  funext j
  by_cases e : j = 26 + i
  · subst e
    rw [pk_us, nrg5 hi hk, pk_us]
  · rw [pk_un e]
    exact nr_cg (fun z hz ez => rfl) (fun z hz ez => rfl) (fun z hz ez => rfl) (fun z hz ez => rfl) (fun z hz ez => (pk_un (by omega)).symm)
theorem nrug4 {i : Nat} {x : Int32} (hi : i < kk) (hk : kk ≤ 6) : upd (nrm v0 v1 v2 v3 hh v5 ww kk g1 g2 g3 g4 g5) (32 + i) x = nrm v0 v1 v2 v3 hh v5 ww kk g1 g2 g3 (upd g4 i x) g5 := by
  funext j
  by_cases e : j = 32 + i
  · subst e
    rw [pk_us, nrg4 hi hk, pk_us]
  · rw [pk_un e]
    exact nr_cg (fun z hz ez => rfl) (fun z hz ez => rfl) (fun z hz ez => rfl) (fun z hz ez => (pk_un (by omega)).symm) (fun z hz ez => rfl)
theorem nr_eq {f1 f2 f3 f4 f5 : RF} (hw : ww ≤ 6) (hk : kk ≤ 6) (e1 : ∀ j : Nat, j < 6 → f1 j = g1 j) (e2 : ∀ j : Nat, j < 6 → f2 j = g2 j) (e3 : ∀ j : Nat, j < 6 → f3 j = g3 j) (e4 : ∀ j : Nat, j < 6 → f4 j = g4 j) (e5 : ∀ j : Nat, j < 6 → f5 j = g5 j) : nrm v0 v1 v2 v3 hh v5 ww kk f1 f2 f3 f4 f5 = nrm v0 v1 v2 v3 hh v5 ww kk g1 g2 g3 g4 g5 := by
  funext j
  exact nr_cg (fun i hi _ => e1 i (by omega)) (fun i hi _ => e2 i (by omega)) (fun i hi _ => e3 i (by omega)) (fun i hi _ => e4 i (by omega)) (fun i hi _ => e5 i (by omega))
theorem nr_z : nrm 0 0 0 0 0 0 0 0 g1 g2 g3 g4 g5 = (fun _ => 0) := by
  funext j
  have f : ∀ (p q : Prop) [Decidable p] [Decidable q] (x a : Int32), (p → ¬ q) → (¬ p → a = 0) → (if p then (if q then x else 0) else a) = 0 := fun p q _ _ x a n h => by
    by_cases e : p
    · rw [if_pos e]
      exact if_neg (n e)
    · exact (if_neg e).trans (h e)
  by_cases l : j < 8
  · rcases (show j = 0 ∨ j = 1 ∨ j = 2 ∨ j = 3 ∨ j = 4 ∨ j = 5 ∨ j = 6 ∨ j = 7 by omega) with rfl | rfl | rfl | rfl | rfl | rfl | rfl | rfl <;> rfl
  · unfold nrm
    rw [if_neg (by omega), if_neg (by omega), if_neg (by omega), if_neg (by omega), if_neg (by omega), if_neg (by omega), if_neg (by omega), if_neg (by omega)]
    exact f _ _ _ _ (fun _ => by omega) (fun a => f _ _ _ _ (fun _ => by omega) (fun b => f _ _ _ _ (fun _ => by omega) (fun b2 => f _ _ _ _ (fun _ => by omega) (fun b3 => f _ _ _ _ (fun _ => by omega) (fun _ => rfl)))))
end NRM
/-! bounds of a level -/
noncomputable def okSnd (c : Nat) (r : RF) (i : Nat) : Prop := ∃ a p q l : Nat, (r (14 + i) = nI a ∧ r (20 + i) = nI p ∧ r (26 + i) = nI q ∧ r (32 + i) = nI l) ∧ 1 ≤ a ∧ a ≤ 5 ∧ p < c ∧ q ≤ 2 ∧ 1 ≤ l ∧ l ≤ 20
noncomputable def okRow (H : Nat) (r : RF) : Prop := ∃ c m re w k h ca me : Nat, (r 0 = nI c ∧ r 1 = nI m ∧ r 2 = nI re ∧ r 3 = nI w ∧ r 4 = nI k ∧ r 5 = nI h ∧ r 6 = nI ca ∧ r 7 = nI me) ∧ (5 ≤ c ∧ c ≤ 15 ∧ m < c ∧ re ≤ 4 ∧ 1 ≤ w ∧ w ≤ 6 ∧ 1 ≤ k ∧ k ≤ 6 ∧ h ≤ H ∧ ca ≤ 1 ∧ me ≤ 999) ∧ (∀ i : Nat, i < w → ∃ x : Nat, x ≤ 4 ∧ r (8 + i) = nI x) ∧ (∀ i : Nat, i < k → okSnd c r i)
theorem okRow_up {H H2 : Nat} {r : RF} (h : okRow H r) (h2 : H ≤ H2) : okRow H2 r := by
  obtain ⟨c, m, re, w, k, h_, ca, me, a, ⟨b1, b2, b3, b4, b5, b6, b7, b8, b9, b10, b11⟩, c1, c2⟩ := h
  exact ⟨c, m, re, w, k, h_, ca, me, a, ⟨b1, b2, b3, b4, b5, b6, b7, b8, by omega, b10, b11⟩, c1, c2⟩
theorem df_eq (k u : Int32) : dfX k u = dfM k u := by
  unfold dfX dfM
  rw [Int32.mul_comm u 2]
theorem n2_eq (n : Int32) : n - 2 = 0 ↔ n = 2 := by
  constructor
  · intro h
    have h2 : n - 2 + 2 = 0 + 2 := by rw [h]
    rw [Int32.sub_add_cancel] at h2
    exact h2
  · intro h
    rw [h]
    decide
theorem lb_ok {l : Nat} (k : Int32) (h1 : 1 ≤ l) (h2 : l ≤ 20) : ∃ l2 : Nat, l2 ≤ 20 ∧ lbM k (nI l) = nI l2 ∧ lbX k (nI l) = nI l2 := by
  unfold lbM lbX
  by_cases k4 : k = 4
  · rw [if_pos k4, if_pos k4]
    exact ⟨l - 1, by omega, pk_sub (b := 1) h1, pk_sub (b := 1) h1⟩
  · rw [if_neg k4, if_neg k4]
    by_cases k5 : k = 5
    · rw [if_pos k5, show nI l + 1 = nI (l + 1) from nI_add l 1]
      by_cases q : l < 20
      · have h19 : nI l < (20 : Int32) := nI_lt (b := 20) q (by decide)
        have h20 : ¬ (20 : Int32) < nI (l + 1) := nI_nlt (a := 20) (by omega) (by decide)
        rw [if_pos ⟨k5, h19⟩, if_neg h20]
        exact ⟨l + 1, by omega, rfl, rfl⟩
      · have e : l = 20 := by omega
        subst e
        exact ⟨20, Nat.le_refl _, if_neg (fun q => absurd q.2 (by decide)), if_pos (by decide)⟩
    · rw [if_neg k5, if_neg (fun q => k5 q.1)]
      exact ⟨l, h2, rfl, rfl⟩
theorem iC_eq {c : Nat} {t : Int32} (h1 : 1 ≤ c) (h2 : c ≤ 1000) : (t < 0 ∨ nI c ≤ t) ↔ ¬ iC (nI c) t := by
  have e : nI c - 1 = nI (c - 1) := pk_sub (b := 1) h1
  rw [iC, e, Int32.lt_iff_toInt_lt, Int32.lt_iff_toInt_lt, Int32.le_iff_toInt_le, nI_toInt (by omega), nI_toInt (by omega)]
  omega
theorem iC_nat {c : Nat} {t : Int32} (h1 : 1 ≤ c) (h2 : c ≤ 1000) (h : iC (nI c) t) : ∃ j : Nat, j < c ∧ t = nI j := by
  have e : nI c - 1 = nI (c - 1) := pk_sub (b := 1) h1
  have z : (0 : Int32).toInt = 0 := rfl
  rw [iC, e, Int32.lt_iff_toInt_lt, Int32.lt_iff_toInt_lt, nI_toInt (by omega), z] at h
  exact nat_of (by omega) (by omega) (by omega)
theorem limN {m a : Nat} (h : m + a < 2 ^ 30) : limX (nI m) (nI a) = nI (if 999 < m + a then 999 else m + a) := by
  unfold limX
  rw [nI_add]
  have e : (999 : Int32) < nI (m + a) ↔ 999 < m + a := nI_ltI (a := 999) (by decide) (by omega)
  by_cases q : 999 < m + a
  · rw [if_pos (e.mpr q), if_pos q]
    rfl
  · rw [if_neg (fun t => q (e.mp t)), if_neg q]
theorem lim_lim {m a b : Nat} (h1 : m ≤ 999) (h2 : a ≤ 1000) (h3 : b ≤ 1000) : limX (limX (nI m) (nI a)) (nI b) = limX (nI m) (nI (a + b)) := by
  have e1 := limN (m := m) (a := a) (by omega)
  have h4 : (if 999 < m + a then 999 else m + a) ≤ 999 := by split <;> omega
  generalize hx : (if 999 < m + a then 999 else m + a) = x at e1 h4
  rw [e1, limN (m := x) (a := b) (by omega), limN (m := m) (a := a + b) (by omega)]
  congr 1
  subst hx
  split <;> split <;> split <;> omega
theorem lim_0 {m : Nat} (h : m ≤ 999) : limX (nI m) (nI 0) = nI m := by
  rw [limN (by omega), if_neg (by omega)]
  rfl
section PASS
variable {v0 v1 v2 v3 v5 m0 n : Int32} {H hh ww kk i gg : Nat} {g1 g2 g3 g4 g5 : RF}
/-- what is known of a level in the class's own words -/
theorem okRow_X (h : okRow H (nrm v0 v1 v2 v3 hh v5 ww kk g1 g2 g3 g4 g5)) (hw6 : ww ≤ 6) (hk6 : kk ≤ 6) (hH : hh < 2 ^ 31) : ∃ c m re ca me : Nat, (v0 = nI c ∧ v1 = nI m ∧ v2 = nI re ∧ v3 = nI ca ∧ v5 = nI me) ∧ (5 ≤ c ∧ c ≤ 15 ∧ m < c ∧ re ≤ 4 ∧ 1 ≤ ww ∧ 1 ≤ kk ∧ hh ≤ H ∧ ca ≤ 1 ∧ me ≤ 999) ∧ (∀ i : Nat, i < ww → ∃ x : Nat, x ≤ 4 ∧ g1 i = nI x) ∧ (∀ i : Nat, i < kk → ∃ a p q l : Nat, (g2 i = nI a ∧ g3 i = nI p ∧ g5 i = nI q ∧ g4 i = nI l) ∧ 1 ≤ a ∧ a ≤ 5 ∧ p < c ∧ q ≤ 2 ∧ 1 ≤ l ∧ l ≤ 20) := by
  obtain ⟨c, m, re, w, k, h_, ca, me, ⟨a0, a1, a2, a3, a4, a5, a6, a7⟩, ⟨b1, b2, b3, b4, b5, b6, b7, b8, b9, b10, b11⟩, c1, c2⟩ := h
  rw [nr0] at a0
  rw [nr1] at a1
  rw [nr2] at a2
  rw [nr3] at a3
  rw [nr4] at a4
  rw [nr6] at a6
  rw [nr7] at a7
  have e3 : ww = w := (nI_eq (by omega) (by omega)).mp a3
  have e4 : kk = k := (nI_eq (by omega) (by omega)).mp a4
  subst e3 e4
  refine ⟨c, m, re, ca, me, ⟨a0, a1, a2, a6, a7⟩, ⟨b1, b2, b3, b4, b5, b7, ?_, b10, b11⟩, fun i hi => ?_, fun i hi => ?_⟩
  · rw [nr5] at a5
    by_cases q : h_ < 2 ^ 31
    · have e5 : hh = h_ := (nI_eq hH q).mp a5
      omega
    · omega
  · have h := c1 i hi
    rw [nrg1 hi hw6] at h
    exact h
  · have h := c2 i hi
    unfold okSnd at h
    rw [nrg2 hi hk6, nrg3 hi hk6, nrg4 hi hk6, nrg5 hi hk6] at h
    exact h
theorem okRow_of {c m re ca me : Nat} (e : v0 = nI c ∧ v1 = nI m ∧ v2 = nI re ∧ v3 = nI ca ∧ v5 = nI me) (b : 5 ≤ c ∧ c ≤ 15 ∧ m < c ∧ re ≤ 4 ∧ 1 ≤ ww ∧ 1 ≤ kk ∧ hh ≤ H ∧ ca ≤ 1 ∧ me ≤ 999) (hw6 : ww ≤ 6) (hk6 : kk ≤ 6) (hw : ∀ i : Nat, i < ww → ∃ x : Nat, x ≤ 4 ∧ g1 i = nI x) (hs : ∀ i : Nat, i < kk → ∃ a p q l : Nat, (g2 i = nI a ∧ g3 i = nI p ∧ g5 i = nI q ∧ g4 i = nI l) ∧ 1 ≤ a ∧ a ≤ 5 ∧ p < c ∧ q ≤ 2 ∧ 1 ≤ l ∧ l ≤ 20) : okRow H (nrm v0 v1 v2 v3 hh v5 ww kk g1 g2 g3 g4 g5) := by
  obtain ⟨e0, e1, e2, e3, e4⟩ := e
  obtain ⟨b1, b2, b3, b4, b5, b6, b7, b8, b9⟩ := b
  refine ⟨c, m, re, ww, kk, hh, ca, me, ⟨e0, e1, e2, rfl, rfl, rfl, e3, e4⟩, ⟨b1, b2, b3, b4, b5, hw6, b6, hk6, b7, b8, b9⟩, fun i hi => ?_, fun i hi => ?_⟩
  · rw [nrg1 hi hw6]
    exact hw i hi
  · unfold okSnd
    rw [nrg2 hi hk6, nrg3 hi hk6, nrg4 hi hk6, nrg5 hi hk6]
    exact hs i hi
theorem snd_up {c : Nat} {h3 h4 h5 : RF} (hs : ∀ i : Nat, i < kk → ∃ a p q l : Nat, (g2 i = nI a ∧ g3 i = nI p ∧ g5 i = nI q ∧ g4 i = nI l) ∧ 1 ≤ a ∧ a ≤ 5 ∧ p < c ∧ q ≤ 2 ∧ 1 ≤ l ∧ l ≤ 20) (o : ∀ j : Nat, j ≠ i → h3 j = g3 j ∧ h4 j = g4 j ∧ h5 j = g5 j) (n : ∃ p q l : Nat, (h3 i = nI p ∧ h5 i = nI q ∧ h4 i = nI l) ∧ p < c ∧ q ≤ 2 ∧ 1 ≤ l ∧ l ≤ 20) : ∀ i : Nat, i < kk → ∃ a p q l : Nat, (g2 i = nI a ∧ h3 i = nI p ∧ h5 i = nI q ∧ h4 i = nI l) ∧ 1 ≤ a ∧ a ≤ 5 ∧ p < c ∧ q ≤ 2 ∧ 1 ≤ l ∧ l ≤ 20 := by
  intro j hj
  obtain ⟨a, p, q, l, ⟨e1, e2, e3, e4⟩, b1, b2, b3, b4, b5, b6⟩ := hs j hj
  by_cases t : j = i
  · subst t
    obtain ⟨p2, q2, l2, ⟨f1, f2, f3⟩, f4, f5, f6, f7⟩ := n
    exact ⟨a, p2, q2, l2, ⟨e1, f1, f2, f3⟩, b1, b2, f4, f5, f6, f7⟩
  · obtain ⟨o1, o2, o3⟩ := o j t
    exact ⟨a, p, q, l, ⟨e1, o1.trans e2, o3.trans e3, o2.trans e4⟩, b1, b2, b3, b4, b5, b6⟩
/-- one sound: the one and the other -/
theorem ps_row (hi : i < kk) (hk : kk ≤ 6) (hw : ww ≤ 6) (hH : hh < 2 ^ 31) (hr : okRow H (nrm v0 v1 v2 v3 hh m0 ww kk g1 g2 g3 g4 g5)) (hv : v5 = limX m0 (nI gg)) (hg : gg ≤ 200) :
    ∃ (v5n : Int32) (g3n g4n g5n : RF) (gn : Nat), psX v0 v1 v2 v3 g2 i n (v5, g3, g4, g5) = (v5n, g3n, g4n, g5n) ∧ mSt (n - 2) i (nrm v0 v1 v2 v3 hh m0 ww kk g1 g2 g3 g4 g5, nI gg) = (nrm v0 v1 v2 v3 hh m0 ww kk g1 g2 g3n g4n g5n, nI gn) ∧ v5n = limX m0 (nI gn) ∧ gn ≤ gg + 20 ∧ okRow H (nrm v0 v1 v2 v3 hh m0 ww kk g1 g2 g3n g4n g5n) := by
  obtain ⟨c, m, re, ca, me, E, B, W, S⟩ := okRow_X hr hw hk hH
  obtain ⟨E0, E1, E2, E3, E4⟩ := id E
  obtain ⟨B1, B2, B3, B4, B5, B6, B7, B8, B9⟩ := id B
  obtain ⟨a, p, q, l, ⟨s1, s2, s3, s4⟩, t1, t2, t3, t4, t5, t6⟩ := S i hi
  have r26 : nrm v0 v1 v2 v3 hh m0 ww kk g1 g2 g3 g4 g5 (26 + i) = g5 i := nrg5 hi hk
  have r20 : nrm v0 v1 v2 v3 hh m0 ww kk g1 g2 g3 g4 g5 (20 + i) = g3 i := nrg3 hi hk
  have r14 : nrm v0 v1 v2 v3 hh m0 ww kk g1 g2 g3 g4 g5 (14 + i) = g2 i := nrg2 hi hk
  have r32 : nrm v0 v1 v2 v3 hh m0 ww kk g1 g2 g3 g4 g5 (32 + i) = g4 i := nrg4 hi hk
  by_cases h0 : g5 i = 0
  · obtain ⟨l2, L1, L2, L3⟩ := lb_ok (g2 i) t5 t6
    have eT : toM (nrm v0 v1 v2 v3 hh m0 ww kk g1 g2 g3 g4 g5) i (n - 2) = cX g2 i n (v5, g3, g4, g5) := by
      unfold toM cX
      rw [r20, r14, df_eq]
    have eL : loM (nrm v0 v1 v2 v3 hh m0 ww kk g1 g2 g3 g4 g5) i = nI l2 := by
      unfold loM
      rw [r14, r32, s4]
      exact L2
    have eX : lX g2 i (v5, g3, g4, g5) = nI l2 := by
      unfold lX
      show lbX (g2 i) (g4 i) = _
      rw [s4]
      exact L3
    have eD : mD1 (nrm v0 v1 v2 v3 hh m0 ww kk g1 g2 g3 g4 g5) i (n - 2) = mDr (nrm v0 v1 v2 v3 hh m0 ww kk g1 g2 g3 g4 g5) i (n - 2) := by
      unfold mD1
      rw [r26, if_pos h0]
    have eq0 : nI l2 ≤ 0 ↔ nI l2 = 0 := by
      rw [show (0 : Int32) = nI 0 from rfl, nI_leI (by omega) (by decide), nI_eq (by omega) (by decide)]
      omega
    have eLo : loX v0 g2 i n (v5, g3, g4, g5) ↔ lostM (nrm v0 v1 v2 v3 hh m0 ww kk g1 g2 g3 g4 g5) i (n - 2) := by
      unfold loX lostM
      rw [eX, eT, eL, nr0, E0, eq0, iC_eq (by omega) (by omega)]
    by_cases hl : loX v0 g2 i n (v5, g3, g4, g5)
    · refine ⟨v5, g3, g4, upd g5 i 2, gg, ?_, ?_, hv, by omega, ?_⟩
      · unfold psX
        rw [if_neg (fun z => z h0), if_pos hl]
      · have e : mD1 (nrm v0 v1 v2 v3 hh m0 ww kk g1 g2 g3 g4 g5) i (n - 2) = nrm v0 v1 v2 v3 hh m0 ww kk g1 g2 g3 g4 (upd g5 i 2) := by
          rw [eD]
          unfold mDr
          rw [if_pos (eLo.mp hl), nrug5 hi hk]
        unfold mSt
        rw [e, if_neg]
        rw [nrg5 hi hk, pk_us]
        exact fun z => absurd z.1 (by decide)
      · exact okRow_of E B hw hk W (snd_up S (fun j hj => ⟨rfl, rfl, pk_un hj⟩) ⟨p, 2, l, ⟨s2, pk_us, s4⟩, t3, by decide, t5, t6⟩)
    · have hn : ¬ lostM (nrm v0 v1 v2 v3 hh m0 ww kk g1 g2 g3 g4 g5) i (n - 2) := fun z => hl (eLo.mpr z)
      have hC : iC (nI c) (cX g2 i n (v5, g3, g4, g5)) := by
        refine Decidable.byContradiction (fun z => hn (Or.inl ?_))
        rw [eT, nr0, E0]
        exact z
      obtain ⟨j, j1, j2⟩ := iC_nat (by omega) (by omega) hC
      have l20 : 1 ≤ l2 := by
        rcases Nat.eq_zero_or_pos l2 with z | z
        · exact absurd (Or.inr (by rw [eL, z]; rfl)) hn
        · exact z
      have e : mD1 (nrm v0 v1 v2 v3 hh m0 ww kk g1 g2 g3 g4 g5) i (n - 2) = nrm v0 v1 v2 v3 hh m0 ww kk g1 g2 (upd g3 i (cX g2 i n (v5, g3, g4, g5))) (upd g4 i (nI l2)) (upd g5 i 0) := by
        rw [eD]
        unfold mDr
        rw [if_neg hn, eT, eL, nrug5 hi hk, nrug3 hi hk, nrug4 hi hk]
      have eO : ofM (nrm v0 v1 v2 v3 hh m0 ww kk g1 g2 (upd g3 i (cX g2 i n (v5, g3, g4, g5))) (upd g4 i (nI l2)) (upd g5 i 0)) i = frX v1 v3 (cX g2 i n (v5, g3, g4, g5)) := by
        unfold ofM frX
        rw [nr6, nr1, nrg3 hi hk, pk_us]
      have eG : grX v1 v2 v3 (cX g2 i n (v5, g3, g4, g5)) n ↔ (nrm v0 v1 v2 v3 hh m0 ww kk g1 g2 (upd g3 i (cX g2 i n (v5, g3, g4, g5))) (upd g4 i (nI l2)) (upd g5 i 0) (26 + i) = 0 ∧ ¬ n - 2 = 0 ∧ amM (nrm v0 v1 v2 v3 hh m0 ww kk g1 g2 (upd g3 i (cX g2 i n (v5, g3, g4, g5))) (upd g4 i (nI l2)) (upd g5 i 0)) i) := by
        unfold grX amM
        rw [eO, nr2, nrg5 hi hk, pk_us, n2_eq]
        exact ⟨fun z => ⟨rfl, z.1, z.2⟩, fun z => z.2⟩
      by_cases hg2 : grX v1 v2 v3 (cX g2 i n (v5, g3, g4, g5)) n
      · refine ⟨limX v5 (nI l2), upd g3 i (cX g2 i n (v5, g3, g4, g5)), upd g4 i (nI l2), upd (upd g5 i 0) i 1, gg + l2, ?_, ?_, ?_, by omega, ?_⟩
        · unfold psX
          rw [if_neg (fun z => z h0), if_neg hl, if_pos hg2, eX]
        · unfold mSt
          rw [e, if_pos (eG.mp hg2), nrug5 hi hk, nrg4 hi hk, pk_us, nI_add]
        · rw [hv, E4]
          exact lim_lim B9 (by omega) (by omega)
        · refine okRow_of E B hw hk W (snd_up S (fun z hz => ⟨pk_un hz, pk_un hz, (pk_un hz).trans (pk_un hz)⟩) ⟨j, 1, l2, ⟨pk_us.trans j2, pk_us, pk_us⟩, j1, by decide, l20, L1⟩)
      · refine ⟨v5, upd g3 i (cX g2 i n (v5, g3, g4, g5)), upd g4 i (nI l2), upd g5 i 0, gg, ?_, ?_, hv, by omega, ?_⟩
        · unfold psX
          rw [if_neg (fun z => z h0), if_neg hl, if_neg hg2, eX]
        · unfold mSt
          rw [e, if_neg (fun z => hg2 (eG.mpr z))]
        · refine okRow_of E B hw hk W (snd_up S (fun z hz => ⟨pk_un hz, pk_un hz, pk_un hz⟩) ⟨j, 0, l2, ⟨pk_us.trans j2, pk_us, pk_us⟩, j1, by decide, l20, L1⟩)
  · refine ⟨v5, g3, g4, g5, gg, ?_, ?_, hv, by omega, hr⟩
    · unfold psX
      rw [if_pos h0]
    · have e : mD1 (nrm v0 v1 v2 v3 hh m0 ww kk g1 g2 g3 g4 g5) i (n - 2) = nrm v0 v1 v2 v3 hh m0 ww kk g1 g2 g3 g4 g5 := by
        unfold mD1
        rw [r26, if_neg h0]
      unfold mSt
      rw [e, if_neg (fun z => h0 (r26.symm.trans z.1))]
theorem pa_row (hk : kk ≤ 6) (hw : ww ≤ 6) (hH : hh < 2 ^ 31) (hr : okRow H (nrm v0 v1 v2 v3 hh v5 ww kk g1 g2 g3 g4 g5)) : ∀ i : Nat, i ≤ kk →
    ∃ (v5n : Int32) (g3n g4n g5n : RF) (gn : Nat), paX v0 v1 v2 v3 g2 n i (v5, g3, g4, g5) = (v5n, g3n, g4n, g5n) ∧ mHs (n - 2) i (nrm v0 v1 v2 v3 hh v5 ww kk g1 g2 g3 g4 g5, 0) = (nrm v0 v1 v2 v3 hh v5 ww kk g1 g2 g3n g4n g5n, nI gn) ∧ v5n = limX v5 (nI gn) ∧ gn ≤ 20 * i ∧ okRow H (nrm v0 v1 v2 v3 hh v5 ww kk g1 g2 g3n g4n g5n) := by
  intro i
  induction i with
  | zero =>
    intro _
    obtain ⟨c, m, re, ca, me, E, B, -, -⟩ := okRow_X hr hw hk hH
    refine ⟨v5, g3, g4, g5, 0, rfl, rfl, ?_, Nat.le_refl _, hr⟩
    rw [E.2.2.2.2]
    exact (lim_0 B.2.2.2.2.2.2.2.2).symm
  | succ i ih =>
    intro hi
    obtain ⟨v5n, g3n, g4n, g5n, gn, e1, e2, e3, e4, e5⟩ := ih (by omega)
    obtain ⟨v5m, g3m, g4m, g5m, gm, f1, f2, f3, f4, f5⟩ := ps_row (n := n) (i := i) (gg := gn) (v5 := v5n) (by omega) hk hw hH e5 e3 (by omega)
    refine ⟨v5m, g3m, g4m, g5m, gm, ?_, ?_, f3, by omega, f5⟩
    · show psX v0 v1 v2 v3 g2 i n (paX v0 v1 v2 v3 g2 n i (v5, g3, g4, g5)) = _
      rw [e1]
      exact f1
    · show mSt (n - 2) i (mHs (n - 2) i (nrm v0 v1 v2 v3 hh v5 ww kk g1 g2 g3 g4 g5, 0)) = _
      rw [e2]
      exact f2
theorem mW_row (hw : ww ≤ 6) (hw1 : 1 ≤ ww) (hH : hh < 2 ^ 31) : mW (nrm v0 v1 v2 v3 hh v5 ww kk g1 g2 g3 g4 g5) = wdX g1 ww hh 0 := by
  unfold mW wdX
  rw [nr5, nr3, nI_clamp hH, nI_clamp (by omega), nrg1 (Nat.mod_lt _ (by omega)) hw, if_neg (by omega)]
  rfl
/-- an hour: the one and the other -/
theorem pass_row {v5n : Int32} {g3n g4n g5n : RF} (hk : kk ≤ 6) (hw : ww ≤ 6) (hH : hh < 2 ^ 31) (hr : okRow H (nrm v0 v1 v2 v3 hh v5 ww kk g1 g2 g3 g4 g5)) (e : paX v0 v1 v2 v3 g2 (wdX g1 ww hh 0) kk (v5, g3, g4, g5) = (v5n, g3n, g4n, g5n)) :
    nrm v0 v1 v2 v3 (hh + 1) v5n ww kk g1 g2 g3n g4n g5n = mH (nrm v0 v1 v2 v3 hh v5 ww kk g1 g2 g3 g4 g5) ∧ okRow (H + 1) (nrm v0 v1 v2 v3 (hh + 1) v5n ww kk g1 g2 g3n g4n g5n) := by
  obtain ⟨c, m, re, ca, me, E, B, W, S⟩ := okRow_X hr hw hk hH
  obtain ⟨v5m, g3m, g4m, g5m, gm, f1, f2, f3, f4, f5⟩ := pa_row (n := wdX g1 ww hh 0) hk hw hH hr kk (Nat.le_refl _)
  rw [e] at f1
  cases f1
  constructor
  · unfold mH mLs
    rw [mW_row hw (by omega) hH, nr4, nI_clamp (by omega), f2]
    show _ = upd (upd (nrm v0 v1 v2 v3 hh v5 ww kk g1 g2 g3n g4n g5n) 7 (limX (nrm v0 v1 v2 v3 hh v5 ww kk g1 g2 g3n g4n g5n 7) (nI gm))) 5 (nrm v0 v1 v2 v3 hh v5 ww kk g1 g2 g3n g4n g5n 5 + 1)
    rw [nr7, nr5, nru7, show nI hh + 1 = nI (hh + 1) from nI_add hh 1, nru5, ← f3]
  · obtain ⟨c2, m2, re2, ca2, me2, E2, B2, W2, S2⟩ := okRow_X f5 hw hk hH
    have hm : v5n = nI (if 999 < me2 + gm then 999 else me2 + gm) := by
      rw [f3, E2.2.2.2.2]
      exact limN (by omega)
    exact okRow_of ⟨E2.1, E2.2.1, E2.2.2.1, E2.2.2.2.1, hm⟩ ⟨B2.1, B2.2.1, B2.2.2.1, B2.2.2.2.1, B2.2.2.2.2.1, B2.2.2.2.2.2.1, by omega, B2.2.2.2.2.2.2.2.1, by split <;> omega⟩ hw hk W2 S2
end PASS
/-! acts: the levels ahead of the latest ones, the oldest first -/
noncomputable def zR : RF := fun _ => 0
noncomputable abbrev AC := Nat → RF
noncomputable def ntN (n : Nat) : Nat := if n < 24 then n + 1 else 24
theorem ntN_min {z u : Nat} (h : u = if 24 < z + 1 then 24 else z + 1) : u = ntN z := by
  rw [h]
  unfold ntN
  split <;> split <;> omega
noncomputable def ntA (r : RF) (n : Nat) (a : AC) : AC := if n < 24 then (fun k => if k = n then r else a k) else (fun k => if k < 23 then a (k + 1) else if k = 23 then r else zR)
/-- without the latest -/
noncomputable def dpA (n : Nat) (a : AC) : AC := fun k => if k + 1 < n then a k else zR
noncomputable def nrV (v : Nat → Int32) (g : Nat → RF) : RF := nrm (v 0) (v 1) (v 2) (v 3) (v 4).toNatClampNeg (v 5) (v 6).toNatClampNeg (v 7).toNatClampNeg (g 0) (g 1) (g 2) (g 3) (g 4)
theorem nrV_lev {v0 v1 v2 v3 v5 : Int32} {hh ww kk : Nat} {g1 g2 g3 g4 g5 f1 f2 f3 f4 f5 : RF} (hH : hh < 2 ^ 31) (hw : ww ≤ 6) (hk : kk ≤ 6) (e1 : ∀ j : Nat, j < 6 → f1 j = g1 j) (e2 : ∀ j : Nat, j < 6 → f2 j = g2 j) (e3 : ∀ j : Nat, j < 6 → f3 j = g3 j) (e4 : ∀ j : Nat, j < 6 → f4 j = g4 j) (e5 : ∀ j : Nat, j < 6 → f5 j = g5 j) : nrV (fun k => [v0, v1, v2, v3, nI hh, v5, nI ww, nI kk].getD k 0) (fun k => [f1, f2, f3, f4, f5].getD k (fun _ => 0)) = nrm v0 v1 v2 v3 hh v5 ww kk g1 g2 g3 g4 g5 := by
  show nrm v0 v1 v2 v3 (nI hh).toNatClampNeg v5 (nI ww).toNatClampNeg (nI kk).toNatClampNeg f1 f2 f3 f4 f5 = _
  rw [nI_clamp hH, nI_clamp (by omega), nI_clamp (by omega)]
  exact nr_eq hw hk e1 e2 e3 e4 e5
theorem nrV_out {v : Nat → Int32} {g : Nat → RF} {h w k : Nat} (e4 : v 4 = nI h) (hh : h < 2 ^ 31) (e6 : v 6 = nI w) (hw : w < 2 ^ 31) (e7 : v 7 = nI k) (hk : k < 2 ^ 31) : nrV v g = nrm (v 0) (v 1) (v 2) (v 3) h (v 5) w k (g 0) (g 1) (g 2) (g 3) (g 4) := by
  unfold nrV
  rw [e4, e6, e7, nI_clamp hh, nI_clamp hw, nI_clamp hk]
theorem nrV_same {V : Nat → Nat → Int32} {G : Nat → Nat → RF} {q i h w k : Nat} (e4 : V q 4 = nI h) (e6 : V q 6 = nI w) (e7 : V q 7 = nI k) : nrV (va_up V q (fun k_ => [V q 0, V q 1, V q 2, V q 3, nI h, V q 5, nI w, nI k].getD k_ 0) i) (va_up G q (fun k_ => [G q 0, G q 1, G q 2, G q 3, G q 4].getD k_ (fun _ => 0)) i) = nrV (V i) (G i) := by
  by_cases e : i = q
  · subst e
    rw [va_up_self, va_up_self]
    show nrm (V i 0) (V i 1) (V i 2) (V i 3) (nI h).toNatClampNeg (V i 5) (nI w).toNatClampNeg (nI k).toNatClampNeg (G i 0) (G i 1) (G i 2) (G i 3) (G i 4) = nrV (V i) (G i)
    unfold nrV
    rw [e4, e6, e7]
  · rw [va_up_ne _ _ e, va_up_ne _ _ e]
/-- the class's ring -/
noncomputable def acX (q z : Nat) (V : Nat → Nat → Int32) (G : Nat → Nat → RF) : AC := fun k => if k < z then nrV (V ((q + 24 - z + k) % 24)) (G ((q + 24 - z + k) % 24)) else zR
theorem acX_keep {q z : Nat} {V Vn : Nat → Nat → Int32} {G Gn : Nat → Nat → RF} {r : RF} (hq : q < 24) (hz : z ≤ 24) (h1 : nrV (Vn q) (Gn q) = r) (h2 : ∀ i : Nat, i < 24 → i ≠ q → nrV (Vn i) (Gn i) = nrV (V i) (G i)) : acX ((q + 1) % 24) (ntN z) Vn Gn = ntA r z (acX q z V G) := by
  funext k
  unfold acX ntA ntN
  by_cases hz2 : z < 24
  · rw [if_pos hz2, if_pos hz2]
    dsimp only
    by_cases e : k = z
    · subst e
      rw [if_pos (by omega), if_pos rfl, show ((q + 1) % 24 + 24 - (k + 1) + k) % 24 = q by omega]
      exact h1
    · rw [if_neg e]
      by_cases l : k < z
      · rw [if_pos (by omega), if_pos l, show ((q + 1) % 24 + 24 - (z + 1) + k) % 24 = (q + 24 - z + k) % 24 by omega]
        exact h2 _ (by omega) (by omega)
      · rw [if_neg (by omega), if_neg l]
  · rw [if_neg hz2, if_neg hz2]
    dsimp only
    by_cases l : k < 23
    · rw [if_pos (by omega), if_pos l, if_pos (by omega), show ((q + 1) % 24 + 24 - 24 + k) % 24 = (q + 24 - z + (k + 1)) % 24 by omega]
      exact h2 _ (by omega) (by omega)
    · rw [if_neg l]
      by_cases e : k = 23
      · subst e
        rw [if_pos (by omega), if_pos rfl, show ((q + 1) % 24 + 24 - 24 + 23) % 24 = q by omega]
        exact h1
      · rw [if_neg e, if_neg (by omega)]
theorem acX_take {q z : Nat} {V Vn : Nat → Nat → Int32} {G Gn : Nat → Nat → RF} (hq : q < 24) (hz : z ≤ 24) (h0 : 0 < z) (h2 : ∀ i : Nat, i < 24 → nrV (Vn i) (Gn i) = nrV (V i) (G i)) : acX ((q + 23) % 24) (z - 1) Vn Gn = dpA z (acX q z V G) ∧ nrV (V ((q + 23) % 24)) (G ((q + 23) % 24)) = acX q z V G (z - 1) := by
  constructor
  · funext k
    unfold acX dpA
    dsimp only
    by_cases l : k + 1 < z
    · rw [if_pos (by omega), if_pos l, if_pos (by omega), show ((q + 23) % 24 + 24 - (z - 1) + k) % 24 = (q + 24 - z + k) % 24 by omega]
      exact h2 _ (by omega)
    · rw [if_neg (by omega), if_neg l]
  · unfold acX
    rw [if_pos (by omega), show (q + 24 - z + (z - 1)) % 24 = (q + 23) % 24 by omega]
theorem acX_0 {q : Nat} {V : Nat → Nat → Int32} {G : Nat → Nat → RF} : acX q 0 V G = (fun _ => zR) := by
  funext k
  exact if_neg (Nat.not_lt_zero k)
theorem acX_same {q z : Nat} {V Vn : Nat → Nat → Int32} {G Gn : Nat → Nat → RF} (h2 : ∀ i : Nat, i < 24 → nrV (Vn i) (Gn i) = nrV (V i) (G i)) : acX q z Vn Gn = acX q z V G := by
  funext k
  unfold acX
  split
  · exact h2 _ (Nat.mod_lt _ (by decide))
  · rfl
/-- the other side's -/
noncomputable def acM (f : RF) (n : Nat) : AC := fun k => if k < n then m38 (fun j => f (38 * k + j)) else zR
theorem acM_push {f g s : RF} {n : Nat} (hn : n < 24) (e1 : ∀ j : Nat, j < 38 → g (38 * n + j) = s j) (e2 : ∀ j : Nat, j < 38 * n ∨ 38 * n + 38 ≤ j → g j = f j) : acM g (n + 1) = ntA (m38 s) n (acM f n) := by
  funext k
  unfold acM ntA
  rw [if_pos hn]
  dsimp only
  by_cases e : k = n
  · subst e
    rw [if_pos (by omega), if_pos rfl]
    funext j
    unfold m38
    split
    · rename_i h
      exact e1 j h
    · rfl
  · rw [if_neg e]
    by_cases l : k < n
    · rw [if_pos (by omega), if_pos l]
      funext j
      unfold m38
      split
      · exact e2 _ (by omega)
      · rfl
    · rw [if_neg (by omega), if_neg l]
theorem acM_shift {f g h s : RF} (e0 : (∀ j : Nat, j < 874 → h j = f (j + 38)) ∧ ∀ j : Nat, 874 ≤ j → h j = f j) (e1 : ∀ j : Nat, j < 38 → g (38 * 23 + j) = s j) (e2 : ∀ j : Nat, j < 38 * 23 ∨ 38 * 23 + 38 ≤ j → g j = h j) : acM g 24 = ntA (m38 s) 24 (acM f 24) := by
  funext k
  unfold acM ntA
  rw [if_neg (show ¬ (24 : Nat) < 24 by decide)]
  dsimp only
  by_cases l : k < 23
  · rw [if_pos (by omega), if_pos l, if_pos (by omega)]
    funext j
    unfold m38
    split
    · rename_i hj
      show g (38 * k + j) = f (38 * (k + 1) + j)
      rw [e2 _ (by omega), e0.1 _ (by omega), show 38 * k + j + 38 = 38 * (k + 1) + j by omega]
    · rfl
  · rw [if_neg l]
    by_cases e : k = 23
    · subst e
      rw [if_pos (by decide), if_pos rfl]
      funext j
      unfold m38
      split
      · rename_i h
        exact e1 j h
      · rfl
    · rw [if_neg e, if_neg (by omega)]
theorem acM_take {f : RF} {n : Nat} : acM f (n - 1) = dpA n (acM f n) := by
  funext k
  unfold acM dpA
  dsimp only
  by_cases l : k + 1 < n
  · rw [if_pos (by omega), if_pos l, if_pos (by omega)]
  · rw [if_neg (by omega), if_neg l]
theorem acM_top {f s : RF} {n : Nat} (h0 : 0 < n) (e : ∀ j : Nat, j < 38 → s j = f (38 * (n - 1) + j)) : m38 s = acM f n (n - 1) := by
  unfold acM
  rw [if_pos (by omega)]
  funext j
  unfold m38
  split
  · rename_i h
    exact e j h
  · rfl
theorem acM_0 {f : RF} : acM f 0 = (fun _ => zR) := by
  funext k
  exact if_neg (Nat.not_lt_zero k)
theorem m38_eq {f g : RF} (h : ∀ j : Nat, j < 38 → f j = g j) : m38 f = m38 g := by
  funext j
  unfold m38
  split
  · rename_i q
    exact h j q
  · rfl
theorem m38_38 (f : RF) : m38 (m38 f) = m38 f := m38_eq (fun _ h => m38_at h)
/-- images -/
noncomputable def imM (fk fq : RF) (k : Nat) : RF := if fk k = 0 then zR else m38 (fun j => fq (38 * k + j))
/-! the two sides' rows: what an hour does reads and writes below 38 -/
theorem m38_c {f : RF} {i : Nat} {v : Int32} (h : i < 38) : m38 (upd f i v) = upd (m38 f) i v := m38_up h
theorem toM_c {f : RF} {i : Nat} {n : Int32} (h : i < 6) : toM (m38 f) i n = toM f i n := by
  unfold toM
  rw [m38_at (by omega), m38_at (by omega)]
theorem loM_c {f : RF} {i : Nat} (h : i < 6) : loM (m38 f) i = loM f i := by
  unfold loM
  rw [m38_at (by omega), m38_at (by omega)]
theorem mDr_c {f : RF} {i : Nat} {n : Int32} (h : i < 6) : m38 (mDr f i n) = mDr (m38 f) i n := by
  unfold mDr lostM
  rw [toM_c h, loM_c h, m38_at (by decide)]
  split
  · exact m38_up (by omega)
  · rw [m38_up (by omega), m38_up (by omega), m38_up (by omega)]
theorem mD1_c {f : RF} {i : Nat} {n : Int32} (h : i < 6) : m38 (mD1 f i n) = mD1 (m38 f) i n := by
  unfold mD1
  rw [m38_at (by omega)]
  split
  · exact mDr_c h
  · rfl
theorem amM_c {f : RF} {i : Nat} (h : i < 6) : amM (m38 f) i ↔ amM f i := by
  unfold amM ofM
  rw [m38_at (by decide), m38_at (by omega), m38_at (by decide), m38_at (by decide)]
theorem mSt_c {n : Int32} {i : Nat} {s : MG} (h : i < 6) : (m38 (mSt n i s).1, (mSt n i s).2) = mSt n i (m38 s.1, s.2) := by
  have a1 := mD1_c (f := s.1) (n := n) h
  have a2 : mD1 (m38 s.1) i n (26 + i) = mD1 s.1 i n (26 + i) := by rw [← a1, m38_at (by omega)]
  have a3 : mD1 (m38 s.1) i n (32 + i) = mD1 s.1 i n (32 + i) := by rw [← a1, m38_at (by omega)]
  have a4 : amM (mD1 (m38 s.1) i n) i ↔ amM (mD1 s.1 i n) i := by
    rw [← a1]
    exact amM_c h
  unfold mSt
  by_cases q : mD1 s.1 i n (26 + i) = 0 ∧ ¬ n = 0 ∧ amM (mD1 s.1 i n) i
  · have q2 : mD1 (m38 s.1) i n (26 + i) = 0 ∧ ¬ n = 0 ∧ amM (mD1 (m38 s.1) i n) i := ⟨a2.trans q.1, q.2.1, a4.mpr q.2.2⟩
    rw [if_pos q, if_pos q2]
    show (m38 (upd (mD1 s.1 i n) (26 + i) 1), s.2 + mD1 s.1 i n (32 + i)) = (upd (mD1 (m38 s.1) i n) (26 + i) 1, s.2 + mD1 (m38 s.1) i n (32 + i))
    rw [m38_up (by omega), a1, a3]
  · have q2 : ¬ (mD1 (m38 s.1) i n (26 + i) = 0 ∧ ¬ n = 0 ∧ amM (mD1 (m38 s.1) i n) i) := fun z => q ⟨a2.symm.trans z.1, z.2.1, a4.mp z.2.2⟩
    rw [if_neg q, if_neg q2]
    show (m38 (mD1 s.1 i n), s.2) = (mD1 (m38 s.1) i n, s.2)
    rw [a1]
theorem mHs_c {n : Int32} {s : MG} : ∀ i : Nat, i ≤ 6 → (m38 (mHs n i s).1, (mHs n i s).2) = mHs n i (m38 s.1, s.2)
  | 0, _ => rfl
  | i + 1, h => by
    have ih := mHs_c (n := n) (s := s) i (by omega)
    show (m38 (mSt n i (mHs n i s)).1, (mSt n i (mHs n i s)).2) = mSt n i (mHs n i (m38 s.1, s.2))
    rw [mSt_c (by omega), ih]
theorem mW_c {f : RF} {w : Nat} (h3 : f 3 = nI w) (hw : w ≤ 6) (h1 : 1 ≤ w) : mW (m38 f) = mW f := by
  have h9 : (f 5).toNatClampNeg % w < w := Nat.mod_lt _ (by omega)
  have e5 : m38 f 5 = f 5 := rfl
  have e3 : m38 f 3 = f 3 := rfl
  unfold mW
  rw [e5, e3, h3, nI_clamp (by omega), m38_at (by omega)]
theorem mH_c {f : RF} {w k : Nat} (h3 : f 3 = nI w) (hw : w ≤ 6) (h1 : 1 ≤ w) (h4 : f 4 = nI k) (hk : k ≤ 6) : m38 (mH f) = mH (m38 f) := by
  have e4 : m38 f 4 = f 4 := rfl
  have h := mHs_c (n := mW f - 2) (s := (f, 0)) k hk
  unfold mH mLs
  rw [mW_c h3 hw h1, e4, h4, nI_clamp (by omega)]
  have h' : mHs (mW f - 2) k (m38 f, 0) = (m38 (mHs (mW f - 2) k (f, 0)).1, (mHs (mW f - 2) k (f, 0)).2) := h.symm
  rw [h', m38_up (by decide), m38_up (by decide)]
  show _ = upd (upd (m38 (mHs (mW f - 2) k (f, 0)).1) 7 (limX (m38 (mHs (mW f - 2) k (f, 0)).1 7) (mHs (mW f - 2) k (f, 0)).2)) 5 (m38 (mHs (mW f - 2) k (f, 0)).1 5 + 1)
  rw [m38_at (i := 7) (by decide), m38_at (i := 5) (by decide)]
theorem dX3_becomeLike_0 : decode cX3_becomeLike 0 = .ok (.aload_n 0, 1) := dq_42 (by decide +kernel)
theorem dX3_becomeLike_1 : decode cX3_becomeLike 1 = .ok (.aload_n 1, 1) := dq_43 (by decide +kernel)
theorem dX3_becomeLike_10 : decode cX3_becomeLike 10 = .ok (.getfield 31, 3) := dq_180 (b1 := 0) (b2 := 31) (by decide +kernel) (by decide)
theorem dX3_becomeLike_100 : decode cX3_becomeLike 100 = .ok (.getfield 18, 3) := dq_180 (b1 := 0) (b2 := 18) (by decide +kernel) (by decide)
theorem dX3_becomeLike_103 : decode cX3_becomeLike 103 = .ok (.iconst 0, 1) := dq_3 (by decide +kernel)
theorem dX3_becomeLike_104 : decode cX3_becomeLike 104 = .ok (.bipush 6, 2) := dq_16 (b1 := 6) (by decide +kernel) (by decide)
theorem dX3_becomeLike_106 : decode cX3_becomeLike 106 = .ok (.invokestatic 52, 3) := dq_184 (b1 := 0) (b2 := 52) (by decide +kernel) (by decide)
theorem dX3_becomeLike_109 : decode cX3_becomeLike 109 = .ok (.aload_n 1, 1) := dq_43 (by decide +kernel)
theorem dX3_becomeLike_110 : decode cX3_becomeLike 110 = .ok (.getfield 21, 3) := dq_180 (b1 := 0) (b2 := 21) (by decide +kernel) (by decide)
theorem dX3_becomeLike_113 : decode cX3_becomeLike 113 = .ok (.iconst 0, 1) := dq_3 (by decide +kernel)
theorem dX3_becomeLike_114 : decode cX3_becomeLike 114 = .ok (.aload_n 0, 1) := dq_42 (by decide +kernel)
theorem dX3_becomeLike_115 : decode cX3_becomeLike 115 = .ok (.getfield 21, 3) := dq_180 (b1 := 0) (b2 := 21) (by decide +kernel) (by decide)
theorem dX3_becomeLike_118 : decode cX3_becomeLike 118 = .ok (.iconst 0, 1) := dq_3 (by decide +kernel)
theorem dX3_becomeLike_119 : decode cX3_becomeLike 119 = .ok (.bipush 6, 2) := dq_16 (b1 := 6) (by decide +kernel) (by decide)
theorem dX3_becomeLike_121 : decode cX3_becomeLike 121 = .ok (.invokestatic 52, 3) := dq_184 (b1 := 0) (b2 := 52) (by decide +kernel) (by decide)
theorem dX3_becomeLike_124 : decode cX3_becomeLike 124 = .ok (.aload_n 1, 1) := dq_43 (by decide +kernel)
theorem dX3_becomeLike_125 : decode cX3_becomeLike 125 = .ok (.getfield 24, 3) := dq_180 (b1 := 0) (b2 := 24) (by decide +kernel) (by decide)
theorem dX3_becomeLike_128 : decode cX3_becomeLike 128 = .ok (.iconst 0, 1) := dq_3 (by decide +kernel)
theorem dX3_becomeLike_129 : decode cX3_becomeLike 129 = .ok (.aload_n 0, 1) := dq_42 (by decide +kernel)
theorem dX3_becomeLike_13 : decode cX3_becomeLike 13 = .ok (.putfield 31, 3) := dq_181 (b1 := 0) (b2 := 31) (by decide +kernel) (by decide)
theorem dX3_becomeLike_130 : decode cX3_becomeLike 130 = .ok (.getfield 24, 3) := dq_180 (b1 := 0) (b2 := 24) (by decide +kernel) (by decide)
theorem dX3_becomeLike_133 : decode cX3_becomeLike 133 = .ok (.iconst 0, 1) := dq_3 (by decide +kernel)
theorem dX3_becomeLike_134 : decode cX3_becomeLike 134 = .ok (.bipush 6, 2) := dq_16 (b1 := 6) (by decide +kernel) (by decide)
theorem dX3_becomeLike_136 : decode cX3_becomeLike 136 = .ok (.invokestatic 52, 3) := dq_184 (b1 := 0) (b2 := 52) (by decide +kernel) (by decide)
theorem dX3_becomeLike_139 : decode cX3_becomeLike 139 = .ok (.return_, 1) := dq_177 (by decide +kernel)
theorem dX3_becomeLike_16 : decode cX3_becomeLike 16 = .ok (.aload_n 0, 1) := dq_42 (by decide +kernel)
theorem dX3_becomeLike_17 : decode cX3_becomeLike 17 = .ok (.aload_n 1, 1) := dq_43 (by decide +kernel)
theorem dX3_becomeLike_18 : decode cX3_becomeLike 18 = .ok (.getfield 34, 3) := dq_180 (b1 := 0) (b2 := 34) (by decide +kernel) (by decide)
theorem dX3_becomeLike_2 : decode cX3_becomeLike 2 = .ok (.getfield 27, 3) := dq_180 (b1 := 0) (b2 := 27) (by decide +kernel) (by decide)
theorem dX3_becomeLike_21 : decode cX3_becomeLike 21 = .ok (.putfield 34, 3) := dq_181 (b1 := 0) (b2 := 34) (by decide +kernel) (by decide)
theorem dX3_becomeLike_24 : decode cX3_becomeLike 24 = .ok (.aload_n 0, 1) := dq_42 (by decide +kernel)
theorem dX3_becomeLike_25 : decode cX3_becomeLike 25 = .ok (.aload_n 1, 1) := dq_43 (by decide +kernel)
theorem dX3_becomeLike_26 : decode cX3_becomeLike 26 = .ok (.getfield 37, 3) := dq_180 (b1 := 0) (b2 := 37) (by decide +kernel) (by decide)
theorem dX3_becomeLike_29 : decode cX3_becomeLike 29 = .ok (.putfield 37, 3) := dq_181 (b1 := 0) (b2 := 37) (by decide +kernel) (by decide)
theorem dX3_becomeLike_32 : decode cX3_becomeLike 32 = .ok (.aload_n 0, 1) := dq_42 (by decide +kernel)
theorem dX3_becomeLike_33 : decode cX3_becomeLike 33 = .ok (.aload_n 1, 1) := dq_43 (by decide +kernel)
theorem dX3_becomeLike_34 : decode cX3_becomeLike 34 = .ok (.getfield 40, 3) := dq_180 (b1 := 0) (b2 := 40) (by decide +kernel) (by decide)
theorem dX3_becomeLike_37 : decode cX3_becomeLike 37 = .ok (.putfield 40, 3) := dq_181 (b1 := 0) (b2 := 40) (by decide +kernel) (by decide)
theorem dX3_becomeLike_40 : decode cX3_becomeLike 40 = .ok (.aload_n 0, 1) := dq_42 (by decide +kernel)
theorem dX3_becomeLike_41 : decode cX3_becomeLike 41 = .ok (.aload_n 1, 1) := dq_43 (by decide +kernel)
theorem dX3_becomeLike_42 : decode cX3_becomeLike 42 = .ok (.getfield 43, 3) := dq_180 (b1 := 0) (b2 := 43) (by decide +kernel) (by decide)
theorem dX3_becomeLike_45 : decode cX3_becomeLike 45 = .ok (.putfield 43, 3) := dq_181 (b1 := 0) (b2 := 43) (by decide +kernel) (by decide)
theorem dX3_becomeLike_48 : decode cX3_becomeLike 48 = .ok (.aload_n 0, 1) := dq_42 (by decide +kernel)
theorem dX3_becomeLike_49 : decode cX3_becomeLike 49 = .ok (.aload_n 1, 1) := dq_43 (by decide +kernel)
theorem dX3_becomeLike_5 : decode cX3_becomeLike 5 = .ok (.putfield 27, 3) := dq_181 (b1 := 0) (b2 := 27) (by decide +kernel) (by decide)
theorem dX3_becomeLike_50 : decode cX3_becomeLike 50 = .ok (.getfield 46, 3) := dq_180 (b1 := 0) (b2 := 46) (by decide +kernel) (by decide)
theorem dX3_becomeLike_53 : decode cX3_becomeLike 53 = .ok (.putfield 46, 3) := dq_181 (b1 := 0) (b2 := 46) (by decide +kernel) (by decide)
theorem dX3_becomeLike_56 : decode cX3_becomeLike 56 = .ok (.aload_n 0, 1) := dq_42 (by decide +kernel)
theorem dX3_becomeLike_57 : decode cX3_becomeLike 57 = .ok (.aload_n 1, 1) := dq_43 (by decide +kernel)
theorem dX3_becomeLike_58 : decode cX3_becomeLike 58 = .ok (.getfield 49, 3) := dq_180 (b1 := 0) (b2 := 49) (by decide +kernel) (by decide)
theorem dX3_becomeLike_61 : decode cX3_becomeLike 61 = .ok (.putfield 49, 3) := dq_181 (b1 := 0) (b2 := 49) (by decide +kernel) (by decide)
theorem dX3_becomeLike_64 : decode cX3_becomeLike 64 = .ok (.aload_n 1, 1) := dq_43 (by decide +kernel)
theorem dX3_becomeLike_65 : decode cX3_becomeLike 65 = .ok (.getfield 9, 3) := dq_180 (b1 := 0) (b2 := 9) (by decide +kernel) (by decide)
theorem dX3_becomeLike_68 : decode cX3_becomeLike 68 = .ok (.iconst 0, 1) := dq_3 (by decide +kernel)
theorem dX3_becomeLike_69 : decode cX3_becomeLike 69 = .ok (.aload_n 0, 1) := dq_42 (by decide +kernel)
theorem dX3_becomeLike_70 : decode cX3_becomeLike 70 = .ok (.getfield 9, 3) := dq_180 (b1 := 0) (b2 := 9) (by decide +kernel) (by decide)
theorem dX3_becomeLike_73 : decode cX3_becomeLike 73 = .ok (.iconst 0, 1) := dq_3 (by decide +kernel)
theorem dX3_becomeLike_74 : decode cX3_becomeLike 74 = .ok (.bipush 6, 2) := dq_16 (b1 := 6) (by decide +kernel) (by decide)
theorem dX3_becomeLike_76 : decode cX3_becomeLike 76 = .ok (.invokestatic 52, 3) := dq_184 (b1 := 0) (b2 := 52) (by decide +kernel) (by decide)
theorem dX3_becomeLike_79 : decode cX3_becomeLike 79 = .ok (.aload_n 1, 1) := dq_43 (by decide +kernel)
theorem dX3_becomeLike_8 : decode cX3_becomeLike 8 = .ok (.aload_n 0, 1) := dq_42 (by decide +kernel)
theorem dX3_becomeLike_80 : decode cX3_becomeLike 80 = .ok (.getfield 15, 3) := dq_180 (b1 := 0) (b2 := 15) (by decide +kernel) (by decide)
theorem dX3_becomeLike_83 : decode cX3_becomeLike 83 = .ok (.iconst 0, 1) := dq_3 (by decide +kernel)
theorem dX3_becomeLike_84 : decode cX3_becomeLike 84 = .ok (.aload_n 0, 1) := dq_42 (by decide +kernel)
theorem dX3_becomeLike_85 : decode cX3_becomeLike 85 = .ok (.getfield 15, 3) := dq_180 (b1 := 0) (b2 := 15) (by decide +kernel) (by decide)
theorem dX3_becomeLike_88 : decode cX3_becomeLike 88 = .ok (.iconst 0, 1) := dq_3 (by decide +kernel)
theorem dX3_becomeLike_89 : decode cX3_becomeLike 89 = .ok (.bipush 6, 2) := dq_16 (b1 := 6) (by decide +kernel) (by decide)
theorem dX3_becomeLike_9 : decode cX3_becomeLike 9 = .ok (.aload_n 1, 1) := dq_43 (by decide +kernel)
theorem dX3_becomeLike_91 : decode cX3_becomeLike 91 = .ok (.invokestatic 52, 3) := dq_184 (b1 := 0) (b2 := 52) (by decide +kernel) (by decide)
theorem dX3_becomeLike_94 : decode cX3_becomeLike 94 = .ok (.aload_n 1, 1) := dq_43 (by decide +kernel)
theorem dX3_becomeLike_95 : decode cX3_becomeLike 95 = .ok (.getfield 18, 3) := dq_180 (b1 := 0) (b2 := 18) (by decide +kernel) (by decide)
theorem dX3_becomeLike_98 : decode cX3_becomeLike 98 = .ok (.iconst 0, 1) := dq_3 (by decide +kernel)
theorem dX3_becomeLike_99 : decode cX3_becomeLike 99 = .ok (.aload_n 0, 1) := dq_42 (by decide +kernel)
theorem dX3_begin_0 : decode cX3_begin 0 = .ok (.aload_n 0, 1) := dq_42 (by decide +kernel)
theorem dX3_begin_1 : decode cX3_begin 1 = .ok (.iconst 0, 1) := dq_3 (by decide +kernel)
theorem dX3_begin_10 : decode cX3_begin 10 = .ok (.aload_n 0, 1) := dq_42 (by decide +kernel)
theorem dX3_begin_11 : decode cX3_begin 11 = .ok (.iconst 0, 1) := dq_3 (by decide +kernel)
theorem dX3_begin_12 : decode cX3_begin 12 = .ok (.putfield 34, 3) := dq_181 (b1 := 0) (b2 := 34) (by decide +kernel) (by decide)
theorem dX3_begin_15 : decode cX3_begin 15 = .ok (.aload_n 0, 1) := dq_42 (by decide +kernel)
theorem dX3_begin_16 : decode cX3_begin 16 = .ok (.iconst 1, 1) := dq_4 (by decide +kernel)
theorem dX3_begin_17 : decode cX3_begin 17 = .ok (.putfield 37, 3) := dq_181 (b1 := 0) (b2 := 37) (by decide +kernel) (by decide)
theorem dX3_begin_2 : decode cX3_begin 2 = .ok (.putfield 27, 3) := dq_181 (b1 := 0) (b2 := 27) (by decide +kernel) (by decide)
theorem dX3_begin_20 : decode cX3_begin 20 = .ok (.aload_n 0, 1) := dq_42 (by decide +kernel)
theorem dX3_begin_21 : decode cX3_begin 21 = .ok (.iconst 0, 1) := dq_3 (by decide +kernel)
theorem dX3_begin_22 : decode cX3_begin 22 = .ok (.putfield 40, 3) := dq_181 (b1 := 0) (b2 := 40) (by decide +kernel) (by decide)
theorem dX3_begin_25 : decode cX3_begin 25 = .ok (.aload_n 0, 1) := dq_42 (by decide +kernel)
theorem dX3_begin_26 : decode cX3_begin 26 = .ok (.iconst 0, 1) := dq_3 (by decide +kernel)
theorem dX3_begin_27 : decode cX3_begin 27 = .ok (.putfield 43, 3) := dq_181 (b1 := 0) (b2 := 43) (by decide +kernel) (by decide)
theorem dX3_begin_30 : decode cX3_begin 30 = .ok (.aload_n 0, 1) := dq_42 (by decide +kernel)
theorem dX3_begin_31 : decode cX3_begin 31 = .ok (.iconst 0, 1) := dq_3 (by decide +kernel)
theorem dX3_begin_32 : decode cX3_begin 32 = .ok (.putfield 46, 3) := dq_181 (b1 := 0) (b2 := 46) (by decide +kernel) (by decide)
theorem dX3_begin_35 : decode cX3_begin 35 = .ok (.aload_n 0, 1) := dq_42 (by decide +kernel)
theorem dX3_begin_36 : decode cX3_begin 36 = .ok (.iconst 0, 1) := dq_3 (by decide +kernel)
theorem dX3_begin_37 : decode cX3_begin 37 = .ok (.putfield 49, 3) := dq_181 (b1 := 0) (b2 := 49) (by decide +kernel) (by decide)
theorem dX3_begin_40 : decode cX3_begin 40 = .ok (.return_, 1) := dq_177 (by decide +kernel)
theorem dX3_begin_5 : decode cX3_begin 5 = .ok (.aload_n 0, 1) := dq_42 (by decide +kernel)
theorem dX3_begin_6 : decode cX3_begin 6 = .ok (.iconst 0, 1) := dq_3 (by decide +kernel)
theorem dX3_begin_7 : decode cX3_begin 7 = .ok (.putfield 31, 3) := dq_181 (b1 := 0) (b2 := 31) (by decide +kernel) (by decide)
theorem dX3_driftOf_0 : decode cX3_driftOf 0 = .ok (.iload_n 2, 1) := dq_28 (by decide +kernel)
theorem dX3_driftOf_1 : decode cX3_driftOf 1 = .ok (.iconst 2, 1) := dq_5 (by decide +kernel)
theorem dX3_driftOf_10 : decode cX3_driftOf 10 = .ok (.tableswitch 43 1 4 #[30, 32, 36, 40], 30) := by decide +kernel
theorem dX3_driftOf_2 : decode cX3_driftOf 2 = .ok (.isub, 1) := dq_100 (by decide +kernel)
theorem dX3_driftOf_3 : decode cX3_driftOf 3 = .ok (.istore_n 3, 1) := dq_62 (by decide +kernel)
theorem dX3_driftOf_4 : decode cX3_driftOf 4 = .ok (.aload_n 0, 1) := dq_42 (by decide +kernel)
theorem dX3_driftOf_40 : decode cX3_driftOf 40 = .ok (.iload_n 3, 1) := dq_29 (by decide +kernel)
theorem dX3_driftOf_41 : decode cX3_driftOf 41 = .ok (.ireturn, 1) := dq_172 (by decide +kernel)
theorem dX3_driftOf_42 : decode cX3_driftOf 42 = .ok (.iload_n 3, 1) := dq_29 (by decide +kernel)
theorem dX3_driftOf_43 : decode cX3_driftOf 43 = .ok (.iconst 2, 1) := dq_5 (by decide +kernel)
theorem dX3_driftOf_44 : decode cX3_driftOf 44 = .ok (.idiv, 1) := dq_108 (by decide +kernel)
theorem dX3_driftOf_45 : decode cX3_driftOf 45 = .ok (.ireturn, 1) := dq_172 (by decide +kernel)
theorem dX3_driftOf_46 : decode cX3_driftOf 46 = .ok (.iload_n 3, 1) := dq_29 (by decide +kernel)
theorem dX3_driftOf_47 : decode cX3_driftOf 47 = .ok (.iconst 2, 1) := dq_5 (by decide +kernel)
theorem dX3_driftOf_48 : decode cX3_driftOf 48 = .ok (.imul, 1) := dq_104 (by decide +kernel)
theorem dX3_driftOf_49 : decode cX3_driftOf 49 = .ok (.ireturn, 1) := dq_172 (by decide +kernel)
theorem dX3_driftOf_5 : decode cX3_driftOf 5 = .ok (.getfield 15, 3) := dq_180 (b1 := 0) (b2 := 15) (by decide +kernel) (by decide)
theorem dX3_driftOf_50 : decode cX3_driftOf 50 = .ok (.iload_n 3, 1) := dq_29 (by decide +kernel)
theorem dX3_driftOf_51 : decode cX3_driftOf 51 = .ok (.ineg, 1) := dq_116 (by decide +kernel)
theorem dX3_driftOf_52 : decode cX3_driftOf 52 = .ok (.ireturn, 1) := dq_172 (by decide +kernel)
theorem dX3_driftOf_53 : decode cX3_driftOf 53 = .ok (.iconst 0, 1) := dq_3 (by decide +kernel)
theorem dX3_driftOf_54 : decode cX3_driftOf 54 = .ok (.ireturn, 1) := dq_172 (by decide +kernel)
theorem dX3_driftOf_8 : decode cX3_driftOf 8 = .ok (.iload_n 1, 1) := dq_27 (by decide +kernel)
theorem dX3_driftOf_9 : decode cX3_driftOf 9 = .ok (.iaload, 1) := dq_46 (by decide +kernel)
theorem dX3_grindsAt_0 : decode cX3_grindsAt 0 = .ok (.aload_n 0, 1) := dq_42 (by decide +kernel)
theorem dX3_grindsAt_1 : decode cX3_grindsAt 1 = .ok (.getfield 37, 3) := dq_180 (b1 := 0) (b2 := 37) (by decide +kernel) (by decide)
theorem dX3_grindsAt_10 : decode cX3_grindsAt 10 = .ok (.getfield 31, 3) := dq_180 (b1 := 0) (b2 := 31) (by decide +kernel) (by decide)
theorem dX3_grindsAt_13 : decode cX3_grindsAt 13 = .ok (.isub, 1) := dq_100 (by decide +kernel)
theorem dX3_grindsAt_14 : decode cX3_grindsAt 14 = .ok (.goto 9, 3) := dq_167 (b1 := 0) (b2 := 9) (by decide +kernel) (by decide)
theorem dX3_grindsAt_17 : decode cX3_grindsAt 17 = .ok (.aload_n 0, 1) := dq_42 (by decide +kernel)
theorem dX3_grindsAt_18 : decode cX3_grindsAt 18 = .ok (.getfield 31, 3) := dq_180 (b1 := 0) (b2 := 31) (by decide +kernel) (by decide)
theorem dX3_grindsAt_21 : decode cX3_grindsAt 21 = .ok (.iload_n 1, 1) := dq_27 (by decide +kernel)
theorem dX3_grindsAt_22 : decode cX3_grindsAt 22 = .ok (.isub, 1) := dq_100 (by decide +kernel)
theorem dX3_grindsAt_23 : decode cX3_grindsAt 23 = .ok (.istore_n 3, 1) := dq_62 (by decide +kernel)
theorem dX3_grindsAt_24 : decode cX3_grindsAt 24 = .ok (.iload_n 2, 1) := dq_28 (by decide +kernel)
theorem dX3_grindsAt_25 : decode cX3_grindsAt 25 = .ok (.iconst 2, 1) := dq_5 (by decide +kernel)
theorem dX3_grindsAt_26 : decode cX3_grindsAt 26 = .ok (.if_icmp .eq 19, 3) := dq_159 (b1 := 0) (b2 := 19) (by decide +kernel) (by decide)
theorem dX3_grindsAt_29 : decode cX3_grindsAt 29 = .ok (.iload_n 3, 1) := dq_29 (by decide +kernel)
theorem dX3_grindsAt_30 : decode cX3_grindsAt 30 = .ok (.ifCond .lt 15, 3) := dq_155 (b1 := 0) (b2 := 15) (by decide +kernel) (by decide)
theorem dX3_grindsAt_33 : decode cX3_grindsAt 33 = .ok (.iload_n 3, 1) := dq_29 (by decide +kernel)
theorem dX3_grindsAt_34 : decode cX3_grindsAt 34 = .ok (.aload_n 0, 1) := dq_42 (by decide +kernel)
theorem dX3_grindsAt_35 : decode cX3_grindsAt 35 = .ok (.getfield 34, 3) := dq_180 (b1 := 0) (b2 := 34) (by decide +kernel) (by decide)
theorem dX3_grindsAt_38 : decode cX3_grindsAt 38 = .ok (.if_icmp .gt 7, 3) := dq_163 (b1 := 0) (b2 := 7) (by decide +kernel) (by decide)
theorem dX3_grindsAt_4 : decode cX3_grindsAt 4 = .ok (.iconst 1, 1) := dq_4 (by decide +kernel)
theorem dX3_grindsAt_41 : decode cX3_grindsAt 41 = .ok (.iconst 1, 1) := dq_4 (by decide +kernel)
theorem dX3_grindsAt_42 : decode cX3_grindsAt 42 = .ok (.goto 4, 3) := dq_167 (b1 := 0) (b2 := 4) (by decide +kernel) (by decide)
theorem dX3_grindsAt_45 : decode cX3_grindsAt 45 = .ok (.iconst 0, 1) := dq_3 (by decide +kernel)
theorem dX3_grindsAt_46 : decode cX3_grindsAt 46 = .ok (.ireturn, 1) := dq_172 (by decide +kernel)
theorem dX3_grindsAt_5 : decode cX3_grindsAt 5 = .ok (.if_icmp .ne 12, 3) := dq_160 (b1 := 0) (b2 := 12) (by decide +kernel) (by decide)
theorem dX3_grindsAt_8 : decode cX3_grindsAt 8 = .ok (.iload_n 1, 1) := dq_27 (by decide +kernel)
theorem dX3_grindsAt_9 : decode cX3_grindsAt 9 = .ok (.aload_n 0, 1) := dq_42 (by decide +kernel)
theorem dX3_hasCell_0 : decode cX3_hasCell 0 = .ok (.iload_n 1, 1) := dq_27 (by decide +kernel)
theorem dX3_hasCell_1 : decode cX3_hasCell 1 = .ok (.ifCond .lt 15, 3) := dq_155 (b1 := 0) (b2 := 15) (by decide +kernel) (by decide)
theorem dX3_hasCell_12 : decode cX3_hasCell 12 = .ok (.iconst 1, 1) := dq_4 (by decide +kernel)
theorem dX3_hasCell_13 : decode cX3_hasCell 13 = .ok (.goto 4, 3) := dq_167 (b1 := 0) (b2 := 4) (by decide +kernel) (by decide)
theorem dX3_hasCell_16 : decode cX3_hasCell 16 = .ok (.iconst 0, 1) := dq_3 (by decide +kernel)
theorem dX3_hasCell_17 : decode cX3_hasCell 17 = .ok (.ireturn, 1) := dq_172 (by decide +kernel)
theorem dX3_hasCell_4 : decode cX3_hasCell 4 = .ok (.iload_n 1, 1) := dq_27 (by decide +kernel)
theorem dX3_hasCell_5 : decode cX3_hasCell 5 = .ok (.aload_n 0, 1) := dq_42 (by decide +kernel)
theorem dX3_hasCell_6 : decode cX3_hasCell 6 = .ok (.getfield 27, 3) := dq_180 (b1 := 0) (b2 := 27) (by decide +kernel) (by decide)
theorem dX3_hasCell_9 : decode cX3_hasCell 9 = .ok (.if_icmp .ge 7, 3) := dq_162 (b1 := 0) (b2 := 7) (by decide +kernel) (by decide)
theorem dX3_hasSound_0 : decode cX3_hasSound 0 = .ok (.iload_n 1, 1) := dq_27 (by decide +kernel)
theorem dX3_hasSound_1 : decode cX3_hasSound 1 = .ok (.ifCond .lt 15, 3) := dq_155 (b1 := 0) (b2 := 15) (by decide +kernel) (by decide)
theorem dX3_hasSound_12 : decode cX3_hasSound 12 = .ok (.iconst 1, 1) := dq_4 (by decide +kernel)
theorem dX3_hasSound_13 : decode cX3_hasSound 13 = .ok (.goto 4, 3) := dq_167 (b1 := 0) (b2 := 4) (by decide +kernel) (by decide)
theorem dX3_hasSound_16 : decode cX3_hasSound 16 = .ok (.iconst 0, 1) := dq_3 (by decide +kernel)
theorem dX3_hasSound_17 : decode cX3_hasSound 17 = .ok (.ireturn, 1) := dq_172 (by decide +kernel)
theorem dX3_hasSound_4 : decode cX3_hasSound 4 = .ok (.iload_n 1, 1) := dq_27 (by decide +kernel)
theorem dX3_hasSound_5 : decode cX3_hasSound 5 = .ok (.aload_n 0, 1) := dq_42 (by decide +kernel)
theorem dX3_hasSound_6 : decode cX3_hasSound 6 = .ok (.getfield 49, 3) := dq_180 (b1 := 0) (b2 := 49) (by decide +kernel) (by decide)
theorem dX3_hasSound_9 : decode cX3_hasSound 9 = .ok (.if_icmp .ge 7, 3) := dq_162 (b1 := 0) (b2 := 7) (by decide +kernel) (by decide)
theorem dX3_hasWind_0 : decode cX3_hasWind 0 = .ok (.iload_n 1, 1) := dq_27 (by decide +kernel)
theorem dX3_hasWind_1 : decode cX3_hasWind 1 = .ok (.ifCond .lt 15, 3) := dq_155 (b1 := 0) (b2 := 15) (by decide +kernel) (by decide)
theorem dX3_hasWind_12 : decode cX3_hasWind 12 = .ok (.iconst 1, 1) := dq_4 (by decide +kernel)
theorem dX3_hasWind_13 : decode cX3_hasWind 13 = .ok (.goto 4, 3) := dq_167 (b1 := 0) (b2 := 4) (by decide +kernel) (by decide)
theorem dX3_hasWind_16 : decode cX3_hasWind 16 = .ok (.iconst 0, 1) := dq_3 (by decide +kernel)
theorem dX3_hasWind_17 : decode cX3_hasWind 17 = .ok (.ireturn, 1) := dq_172 (by decide +kernel)
theorem dX3_hasWind_4 : decode cX3_hasWind 4 = .ok (.iload_n 1, 1) := dq_27 (by decide +kernel)
theorem dX3_hasWind_5 : decode cX3_hasWind 5 = .ok (.aload_n 0, 1) := dq_42 (by decide +kernel)
theorem dX3_hasWind_6 : decode cX3_hasWind 6 = .ok (.getfield 46, 3) := dq_180 (b1 := 0) (b2 := 46) (by decide +kernel) (by decide)
theorem dX3_hasWind_9 : decode cX3_hasWind 9 = .ok (.if_icmp .ge 7, 3) := dq_162 (b1 := 0) (b2 := 7) (by decide +kernel) (by decide)
theorem dX3_isLoose_0 : decode cX3_isLoose 0 = .ok (.aload_n 0, 1) := dq_42 (by decide +kernel)
theorem dX3_isLoose_1 : decode cX3_isLoose 1 = .ok (.getfield 24, 3) := dq_180 (b1 := 0) (b2 := 24) (by decide +kernel) (by decide)
theorem dX3_isLoose_10 : decode cX3_isLoose 10 = .ok (.goto 4, 3) := dq_167 (b1 := 0) (b2 := 4) (by decide +kernel) (by decide)
theorem dX3_isLoose_13 : decode cX3_isLoose 13 = .ok (.iconst 0, 1) := dq_3 (by decide +kernel)
theorem dX3_isLoose_14 : decode cX3_isLoose 14 = .ok (.ireturn, 1) := dq_172 (by decide +kernel)
theorem dX3_isLoose_4 : decode cX3_isLoose 4 = .ok (.iload_n 1, 1) := dq_27 (by decide +kernel)
theorem dX3_isLoose_5 : decode cX3_isLoose 5 = .ok (.iaload, 1) := dq_46 (by decide +kernel)
theorem dX3_isLoose_6 : decode cX3_isLoose 6 = .ok (.ifCond .ne 7, 3) := dq_154 (b1 := 0) (b2 := 7) (by decide +kernel) (by decide)
theorem dX3_isLoose_9 : decode cX3_isLoose 9 = .ok (.iconst 1, 1) := dq_4 (by decide +kernel)
theorem dX3_isTold_0 : decode cX3_isTold 0 = .ok (.aload_n 0, 1) := dq_42 (by decide +kernel)
theorem dX3_isTold_1 : decode cX3_isTold 1 = .ok (.getfield 27, 3) := dq_180 (b1 := 0) (b2 := 27) (by decide +kernel) (by decide)
theorem dX3_isTold_11 : decode cX3_isTold 11 = .ok (.iconst 0, 1) := dq_3 (by decide +kernel)
theorem dX3_isTold_12 : decode cX3_isTold 12 = .ok (.ireturn, 1) := dq_172 (by decide +kernel)
theorem dX3_isTold_4 : decode cX3_isTold 4 = .ok (.ifCond .le 7, 3) := dq_158 (b1 := 0) (b2 := 7) (by decide +kernel) (by decide)
theorem dX3_isTold_7 : decode cX3_isTold 7 = .ok (.iconst 1, 1) := dq_4 (by decide +kernel)
theorem dX3_isTold_8 : decode cX3_isTold 8 = .ok (.goto 4, 3) := dq_167 (b1 := 0) (b2 := 4) (by decide +kernel) (by decide)
theorem dX3_letLoose_0 : decode cX3_letLoose 0 = .ok (.aload_n 0, 1) := dq_42 (by decide +kernel)
theorem dX3_letLoose_1 : decode cX3_letLoose 1 = .ok (.getfield 18, 3) := dq_180 (b1 := 0) (b2 := 18) (by decide +kernel) (by decide)
theorem dX3_letLoose_11 : decode cX3_letLoose 11 = .ok (.iload_n 1, 1) := dq_27 (by decide +kernel)
theorem dX3_letLoose_12 : decode cX3_letLoose 12 = .ok (.iload_n 3, 1) := dq_29 (by decide +kernel)
theorem dX3_letLoose_13 : decode cX3_letLoose 13 = .ok (.iastore, 1) := dq_79 (by decide +kernel)
theorem dX3_letLoose_14 : decode cX3_letLoose 14 = .ok (.aload_n 0, 1) := dq_42 (by decide +kernel)
theorem dX3_letLoose_15 : decode cX3_letLoose 15 = .ok (.getfield 24, 3) := dq_180 (b1 := 0) (b2 := 24) (by decide +kernel) (by decide)
theorem dX3_letLoose_18 : decode cX3_letLoose 18 = .ok (.iload_n 1, 1) := dq_27 (by decide +kernel)
theorem dX3_letLoose_19 : decode cX3_letLoose 19 = .ok (.iconst 0, 1) := dq_3 (by decide +kernel)
theorem dX3_letLoose_20 : decode cX3_letLoose 20 = .ok (.iastore, 1) := dq_79 (by decide +kernel)
theorem dX3_letLoose_21 : decode cX3_letLoose 21 = .ok (.return_, 1) := dq_177 (by decide +kernel)
theorem dX3_letLoose_4 : decode cX3_letLoose 4 = .ok (.iload_n 1, 1) := dq_27 (by decide +kernel)
theorem dX3_letLoose_5 : decode cX3_letLoose 5 = .ok (.iload_n 2, 1) := dq_28 (by decide +kernel)
theorem dX3_letLoose_6 : decode cX3_letLoose 6 = .ok (.iastore, 1) := dq_79 (by decide +kernel)
theorem dX3_letLoose_7 : decode cX3_letLoose 7 = .ok (.aload_n 0, 1) := dq_42 (by decide +kernel)
theorem dX3_letLoose_8 : decode cX3_letLoose 8 = .ok (.getfield 21, 3) := dq_180 (b1 := 0) (b2 := 21) (by decide +kernel) (by decide)
theorem dX3_loudBehindHour_0 : decode cX3_loudBehindHour 0 = .ok (.aload_n 0, 1) := dq_42 (by decide +kernel)
theorem dX3_loudBehindHour_1 : decode cX3_loudBehindHour 1 = .ok (.getfield 15, 3) := dq_180 (b1 := 0) (b2 := 15) (by decide +kernel) (by decide)
theorem dX3_loudBehindHour_32 : decode cX3_loudBehindHour 32 = .ok (.aload_n 0, 1) := dq_42 (by decide +kernel)
theorem dX3_loudBehindHour_33 : decode cX3_loudBehindHour 33 = .ok (.getfield 21, 3) := dq_180 (b1 := 0) (b2 := 21) (by decide +kernel) (by decide)
theorem dX3_loudBehindHour_36 : decode cX3_loudBehindHour 36 = .ok (.iload_n 1, 1) := dq_27 (by decide +kernel)
theorem dX3_loudBehindHour_37 : decode cX3_loudBehindHour 37 = .ok (.iaload, 1) := dq_46 (by decide +kernel)
theorem dX3_loudBehindHour_38 : decode cX3_loudBehindHour 38 = .ok (.iconst 1, 1) := dq_4 (by decide +kernel)
theorem dX3_loudBehindHour_39 : decode cX3_loudBehindHour 39 = .ok (.isub, 1) := dq_100 (by decide +kernel)
theorem dX3_loudBehindHour_4 : decode cX3_loudBehindHour 4 = .ok (.iload_n 1, 1) := dq_27 (by decide +kernel)
theorem dX3_loudBehindHour_40 : decode cX3_loudBehindHour 40 = .ok (.ireturn, 1) := dq_172 (by decide +kernel)
theorem dX3_loudBehindHour_41 : decode cX3_loudBehindHour 41 = .ok (.aload_n 0, 1) := dq_42 (by decide +kernel)
theorem dX3_loudBehindHour_42 : decode cX3_loudBehindHour 42 = .ok (.getfield 21, 3) := dq_180 (b1 := 0) (b2 := 21) (by decide +kernel) (by decide)
theorem dX3_loudBehindHour_45 : decode cX3_loudBehindHour 45 = .ok (.iload_n 1, 1) := dq_27 (by decide +kernel)
theorem dX3_loudBehindHour_46 : decode cX3_loudBehindHour 46 = .ok (.iaload, 1) := dq_46 (by decide +kernel)
theorem dX3_loudBehindHour_47 : decode cX3_loudBehindHour 47 = .ok (.iconst 1, 1) := dq_4 (by decide +kernel)
theorem dX3_loudBehindHour_48 : decode cX3_loudBehindHour 48 = .ok (.iadd, 1) := dq_96 (by decide +kernel)
theorem dX3_loudBehindHour_49 : decode cX3_loudBehindHour 49 = .ok (.bipush 20, 2) := dq_16 (b1 := 20) (by decide +kernel) (by decide)
theorem dX3_loudBehindHour_5 : decode cX3_loudBehindHour 5 = .ok (.iaload, 1) := dq_46 (by decide +kernel)
theorem dX3_loudBehindHour_51 : decode cX3_loudBehindHour 51 = .ok (.invokestatic 63, 3) := dq_184 (b1 := 0) (b2 := 63) (by decide +kernel) (by decide)
theorem dX3_loudBehindHour_54 : decode cX3_loudBehindHour 54 = .ok (.ireturn, 1) := dq_172 (by decide +kernel)
theorem dX3_loudBehindHour_55 : decode cX3_loudBehindHour 55 = .ok (.aload_n 0, 1) := dq_42 (by decide +kernel)
theorem dX3_loudBehindHour_56 : decode cX3_loudBehindHour 56 = .ok (.getfield 21, 3) := dq_180 (b1 := 0) (b2 := 21) (by decide +kernel) (by decide)
theorem dX3_loudBehindHour_59 : decode cX3_loudBehindHour 59 = .ok (.iload_n 1, 1) := dq_27 (by decide +kernel)
theorem dX3_loudBehindHour_6 : decode cX3_loudBehindHour 6 = .ok (.lookupswitch 49 #[(4, 26), (5, 35)], 26) := by decide +kernel
theorem dX3_loudBehindHour_60 : decode cX3_loudBehindHour 60 = .ok (.iaload, 1) := dq_46 (by decide +kernel)
theorem dX3_loudBehindHour_61 : decode cX3_loudBehindHour 61 = .ok (.ireturn, 1) := dq_172 (by decide +kernel)
theorem dX3_loudOf_0 : decode cX3_loudOf 0 = .ok (.iconst 0, 1) := dq_3 (by decide +kernel)
theorem dX3_loudOf_1 : decode cX3_loudOf 1 = .ok (.istore_n 2, 1) := dq_61 (by decide +kernel)
theorem dX3_loudOf_12 : decode cX3_loudOf 12 = .ok (.iload_n 2, 1) := dq_28 (by decide +kernel)
theorem dX3_loudOf_13 : decode cX3_loudOf 13 = .ok (.iload_n 1, 1) := dq_27 (by decide +kernel)
theorem dX3_loudOf_14 : decode cX3_loudOf 14 = .ok (.iload_n 3, 1) := dq_29 (by decide +kernel)
theorem dX3_loudOf_15 : decode cX3_loudOf 15 = .ok (.ishr, 1) := dq_122 (by decide +kernel)
theorem dX3_loudOf_16 : decode cX3_loudOf 16 = .ok (.iconst 1, 1) := dq_4 (by decide +kernel)
theorem dX3_loudOf_17 : decode cX3_loudOf 17 = .ok (.iand, 1) := dq_126 (by decide +kernel)
theorem dX3_loudOf_18 : decode cX3_loudOf 18 = .ok (.iconst 1, 1) := dq_4 (by decide +kernel)
theorem dX3_loudOf_19 : decode cX3_loudOf 19 = .ok (.if_icmp .ne 12, 3) := dq_160 (b1 := 0) (b2 := 12) (by decide +kernel) (by decide)
theorem dX3_loudOf_2 : decode cX3_loudOf 2 = .ok (.iconst 0, 1) := dq_3 (by decide +kernel)
theorem dX3_loudOf_22 : decode cX3_loudOf 22 = .ok (.aload_n 0, 1) := dq_42 (by decide +kernel)
theorem dX3_loudOf_23 : decode cX3_loudOf 23 = .ok (.getfield 21, 3) := dq_180 (b1 := 0) (b2 := 21) (by decide +kernel) (by decide)
theorem dX3_loudOf_26 : decode cX3_loudOf 26 = .ok (.iload_n 3, 1) := dq_29 (by decide +kernel)
theorem dX3_loudOf_27 : decode cX3_loudOf 27 = .ok (.iaload, 1) := dq_46 (by decide +kernel)
theorem dX3_loudOf_28 : decode cX3_loudOf 28 = .ok (.goto 4, 3) := dq_167 (b1 := 0) (b2 := 4) (by decide +kernel) (by decide)
theorem dX3_loudOf_3 : decode cX3_loudOf 3 = .ok (.istore_n 3, 1) := dq_62 (by decide +kernel)
theorem dX3_loudOf_31 : decode cX3_loudOf 31 = .ok (.iconst 0, 1) := dq_3 (by decide +kernel)
theorem dX3_loudOf_32 : decode cX3_loudOf 32 = .ok (.iadd, 1) := dq_96 (by decide +kernel)
theorem dX3_loudOf_33 : decode cX3_loudOf 33 = .ok (.istore_n 2, 1) := dq_61 (by decide +kernel)
theorem dX3_loudOf_34 : decode cX3_loudOf 34 = .ok (.iinc 3 1, 3) := dq_132 (b1 := 3) (b2 := 1) (by decide +kernel) (by decide) (by decide)
theorem dX3_loudOf_37 : decode cX3_loudOf 37 = .ok (.goto (-33), 3) := dq_167 (b1 := 255) (b2 := 223) (by decide +kernel) (by decide)
theorem dX3_loudOf_4 : decode cX3_loudOf 4 = .ok (.iload_n 3, 1) := dq_29 (by decide +kernel)
theorem dX3_loudOf_40 : decode cX3_loudOf 40 = .ok (.iload_n 2, 1) := dq_28 (by decide +kernel)
theorem dX3_loudOf_41 : decode cX3_loudOf 41 = .ok (.ireturn, 1) := dq_172 (by decide +kernel)
theorem dX3_loudOf_5 : decode cX3_loudOf 5 = .ok (.aload_n 0, 1) := dq_42 (by decide +kernel)
theorem dX3_loudOf_6 : decode cX3_loudOf 6 = .ok (.getfield 49, 3) := dq_180 (b1 := 0) (b2 := 49) (by decide +kernel) (by decide)
theorem dX3_loudOf_9 : decode cX3_loudOf 9 = .ok (.if_icmp .ge 31, 3) := dq_162 (b1 := 0) (b2 := 31) (by decide +kernel) (by decide)
theorem dX3_mealBehind_0 : decode cX3_mealBehind 0 = .ok (.iconst 0, 1) := dq_3 (by decide +kernel)
theorem dX3_mealBehind_1 : decode cX3_mealBehind 1 = .ok (.istore_n 2, 1) := dq_61 (by decide +kernel)
theorem dX3_mealBehind_11 : decode cX3_mealBehind 11 = .ok (.iinc 2 1, 3) := dq_132 (b1 := 2) (b2 := 1) (by decide +kernel) (by decide) (by decide)
theorem dX3_mealBehind_14 : decode cX3_mealBehind 14 = .ok (.goto (-12), 3) := dq_167 (b1 := 255) (b2 := 244) (by decide +kernel) (by decide)
theorem dX3_mealBehind_17 : decode cX3_mealBehind 17 = .ok (.aload_n 0, 1) := dq_42 (by decide +kernel)
theorem dX3_mealBehind_18 : decode cX3_mealBehind 18 = .ok (.getfield 43, 3) := dq_180 (b1 := 0) (b2 := 43) (by decide +kernel) (by decide)
theorem dX3_mealBehind_2 : decode cX3_mealBehind 2 = .ok (.iload_n 2, 1) := dq_28 (by decide +kernel)
theorem dX3_mealBehind_21 : decode cX3_mealBehind 21 = .ok (.ireturn, 1) := dq_172 (by decide +kernel)
theorem dX3_mealBehind_3 : decode cX3_mealBehind 3 = .ok (.iload_n 1, 1) := dq_27 (by decide +kernel)
theorem dX3_mealBehind_4 : decode cX3_mealBehind 4 = .ok (.if_icmp .ge 13, 3) := dq_162 (b1 := 0) (b2 := 13) (by decide +kernel) (by decide)
theorem dX3_mealBehind_7 : decode cX3_mealBehind 7 = .ok (.aload_n 0, 1) := dq_42 (by decide +kernel)
theorem dX3_mealBehind_8 : decode cX3_mealBehind 8 = .ok (.invokevirtual 94, 3) := dq_182 (b1 := 0) (b2 := 94) (by decide +kernel) (by decide)
theorem dX3_passOnly_0 : decode cX3_passOnly 0 = .ok (.iconst 0, 1) := dq_3 (by decide +kernel)
theorem dX3_passOnly_1 : decode cX3_passOnly 1 = .ok (.istore_n 3, 1) := dq_62 (by decide +kernel)
theorem dX3_passOnly_10 : decode cX3_passOnly 10 = .ok (.iconst 0, 1) := dq_3 (by decide +kernel)
theorem dX3_passOnly_11 : decode cX3_passOnly 11 = .ok (.invokevirtual 87, 3) := dq_182 (b1 := 0) (b2 := 87) (by decide +kernel) (by decide)
theorem dX3_passOnly_14 : decode cX3_passOnly 14 = .ok (.invokevirtual 90, 3) := dq_182 (b1 := 0) (b2 := 90) (by decide +kernel) (by decide)
theorem dX3_passOnly_17 : decode cX3_passOnly 17 = .ok (.aload_n 0, 1) := dq_42 (by decide +kernel)
theorem dX3_passOnly_18 : decode cX3_passOnly 18 = .ok (.dup, 1) := dq_89 (by decide +kernel)
theorem dX3_passOnly_19 : decode cX3_passOnly 19 = .ok (.getfield 40, 3) := dq_180 (b1 := 0) (b2 := 40) (by decide +kernel) (by decide)
theorem dX3_passOnly_2 : decode cX3_passOnly 2 = .ok (.iload_n 3, 1) := dq_29 (by decide +kernel)
theorem dX3_passOnly_22 : decode cX3_passOnly 22 = .ok (.iconst 1, 1) := dq_4 (by decide +kernel)
theorem dX3_passOnly_23 : decode cX3_passOnly 23 = .ok (.iadd, 1) := dq_96 (by decide +kernel)
theorem dX3_passOnly_24 : decode cX3_passOnly 24 = .ok (.putfield 40, 3) := dq_181 (b1 := 0) (b2 := 40) (by decide +kernel) (by decide)
theorem dX3_passOnly_27 : decode cX3_passOnly 27 = .ok (.iinc 3 1, 3) := dq_132 (b1 := 3) (b2 := 1) (by decide +kernel) (by decide) (by decide)
theorem dX3_passOnly_3 : decode cX3_passOnly 3 = .ok (.iload_n 2, 1) := dq_28 (by decide +kernel)
theorem dX3_passOnly_30 : decode cX3_passOnly 30 = .ok (.goto (-28), 3) := dq_167 (b1 := 255) (b2 := 228) (by decide +kernel) (by decide)
theorem dX3_passOnly_33 : decode cX3_passOnly 33 = .ok (.return_, 1) := dq_177 (by decide +kernel)
theorem dX3_passOnly_4 : decode cX3_passOnly 4 = .ok (.if_icmp .ge 29, 3) := dq_162 (b1 := 0) (b2 := 29) (by decide +kernel) (by decide)
theorem dX3_passOnly_7 : decode cX3_passOnly 7 = .ok (.aload_n 0, 1) := dq_42 (by decide +kernel)
theorem dX3_passOnly_8 : decode cX3_passOnly 8 = .ok (.iload_n 1, 1) := dq_27 (by decide +kernel)
theorem dX3_passOnly_9 : decode cX3_passOnly 9 = .ok (.aload_n 0, 1) := dq_42 (by decide +kernel)
theorem dX3_passSound_0 : decode cX3_passSound 0 = .ok (.aload_n 0, 1) := dq_42 (by decide +kernel)
theorem dX3_passSound_1 : decode cX3_passSound 1 = .ok (.iload_n 1, 1) := dq_27 (by decide +kernel)
theorem dX3_passSound_10 : decode cX3_passSound 10 = .ok (.getfield 18, 3) := dq_180 (b1 := 0) (b2 := 18) (by decide +kernel) (by decide)
theorem dX3_passSound_13 : decode cX3_passSound 13 = .ok (.iload_n 1, 1) := dq_27 (by decide +kernel)
theorem dX3_passSound_14 : decode cX3_passSound 14 = .ok (.iaload, 1) := dq_46 (by decide +kernel)
theorem dX3_passSound_15 : decode cX3_passSound 15 = .ok (.aload_n 0, 1) := dq_42 (by decide +kernel)
theorem dX3_passSound_16 : decode cX3_passSound 16 = .ok (.iload_n 1, 1) := dq_27 (by decide +kernel)
theorem dX3_passSound_17 : decode cX3_passSound 17 = .ok (.iload_n 2, 1) := dq_28 (by decide +kernel)
theorem dX3_passSound_18 : decode cX3_passSound 18 = .ok (.invokevirtual 69, 3) := dq_182 (b1 := 0) (b2 := 69) (by decide +kernel) (by decide)
theorem dX3_passSound_2 : decode cX3_passSound 2 = .ok (.invokevirtual 58, 3) := dq_182 (b1 := 0) (b2 := 58) (by decide +kernel) (by decide)
theorem dX3_passSound_21 : decode cX3_passSound 21 = .ok (.iadd, 1) := dq_96 (by decide +kernel)
theorem dX3_passSound_22 : decode cX3_passSound 22 = .ok (.istore_n 3, 1) := dq_62 (by decide +kernel)
theorem dX3_passSound_23 : decode cX3_passSound 23 = .ok (.aload_n 0, 1) := dq_42 (by decide +kernel)
theorem dX3_passSound_24 : decode cX3_passSound 24 = .ok (.iload_n 1, 1) := dq_27 (by decide +kernel)
theorem dX3_passSound_25 : decode cX3_passSound 25 = .ok (.invokevirtual 72, 3) := dq_182 (b1 := 0) (b2 := 72) (by decide +kernel) (by decide)
theorem dX3_passSound_28 : decode cX3_passSound 28 = .ok (.istore 4, 2) := dq_54 (b1 := 4) (by decide +kernel) (by decide)
theorem dX3_passSound_30 : decode cX3_passSound 30 = .ok (.aload_n 0, 1) := dq_42 (by decide +kernel)
theorem dX3_passSound_31 : decode cX3_passSound 31 = .ok (.iload_n 3, 1) := dq_29 (by decide +kernel)
theorem dX3_passSound_32 : decode cX3_passSound 32 = .ok (.invokevirtual 76, 3) := dq_182 (b1 := 0) (b2 := 76) (by decide +kernel) (by decide)
theorem dX3_passSound_35 : decode cX3_passSound 35 = .ok (.ifCond .eq 8, 3) := dq_153 (b1 := 0) (b2 := 8) (by decide +kernel) (by decide)
theorem dX3_passSound_38 : decode cX3_passSound 38 = .ok (.iload 4, 2) := dq_21 (b1 := 4) (by decide +kernel) (by decide)
theorem dX3_passSound_40 : decode cX3_passSound 40 = .ok (.ifCond .gt 11, 3) := dq_157 (b1 := 0) (b2 := 11) (by decide +kernel) (by decide)
theorem dX3_passSound_43 : decode cX3_passSound 43 = .ok (.aload_n 0, 1) := dq_42 (by decide +kernel)
theorem dX3_passSound_44 : decode cX3_passSound 44 = .ok (.getfield 24, 3) := dq_180 (b1 := 0) (b2 := 24) (by decide +kernel) (by decide)
theorem dX3_passSound_47 : decode cX3_passSound 47 = .ok (.iload_n 1, 1) := dq_27 (by decide +kernel)
theorem dX3_passSound_48 : decode cX3_passSound 48 = .ok (.iconst 2, 1) := dq_5 (by decide +kernel)
theorem dX3_passSound_49 : decode cX3_passSound 49 = .ok (.iastore, 1) := dq_79 (by decide +kernel)
theorem dX3_passSound_5 : decode cX3_passSound 5 = .ok (.ifCond .ne 4, 3) := dq_154 (b1 := 0) (b2 := 4) (by decide +kernel) (by decide)
theorem dX3_passSound_50 : decode cX3_passSound 50 = .ok (.return_, 1) := dq_177 (by decide +kernel)
theorem dX3_passSound_51 : decode cX3_passSound 51 = .ok (.aload_n 0, 1) := dq_42 (by decide +kernel)
theorem dX3_passSound_52 : decode cX3_passSound 52 = .ok (.iload_n 1, 1) := dq_27 (by decide +kernel)
theorem dX3_passSound_53 : decode cX3_passSound 53 = .ok (.iload_n 3, 1) := dq_29 (by decide +kernel)
theorem dX3_passSound_54 : decode cX3_passSound 54 = .ok (.iload 4, 2) := dq_21 (b1 := 4) (by decide +kernel) (by decide)
theorem dX3_passSound_56 : decode cX3_passSound 56 = .ok (.invokevirtual 79, 3) := dq_182 (b1 := 0) (b2 := 79) (by decide +kernel) (by decide)
theorem dX3_passSound_59 : decode cX3_passSound 59 = .ok (.aload_n 0, 1) := dq_42 (by decide +kernel)
theorem dX3_passSound_60 : decode cX3_passSound 60 = .ok (.iload_n 3, 1) := dq_29 (by decide +kernel)
theorem dX3_passSound_61 : decode cX3_passSound 61 = .ok (.iload_n 2, 1) := dq_28 (by decide +kernel)
theorem dX3_passSound_62 : decode cX3_passSound 62 = .ok (.invokevirtual 83, 3) := dq_182 (b1 := 0) (b2 := 83) (by decide +kernel) (by decide)
theorem dX3_passSound_65 : decode cX3_passSound 65 = .ok (.ifCond .eq 27, 3) := dq_153 (b1 := 0) (b2 := 27) (by decide +kernel) (by decide)
theorem dX3_passSound_68 : decode cX3_passSound 68 = .ok (.aload_n 0, 1) := dq_42 (by decide +kernel)
theorem dX3_passSound_69 : decode cX3_passSound 69 = .ok (.getfield 24, 3) := dq_180 (b1 := 0) (b2 := 24) (by decide +kernel) (by decide)
theorem dX3_passSound_72 : decode cX3_passSound 72 = .ok (.iload_n 1, 1) := dq_27 (by decide +kernel)
theorem dX3_passSound_73 : decode cX3_passSound 73 = .ok (.iconst 1, 1) := dq_4 (by decide +kernel)
theorem dX3_passSound_74 : decode cX3_passSound 74 = .ok (.iastore, 1) := dq_79 (by decide +kernel)
theorem dX3_passSound_75 : decode cX3_passSound 75 = .ok (.aload_n 0, 1) := dq_42 (by decide +kernel)
theorem dX3_passSound_76 : decode cX3_passSound 76 = .ok (.aload_n 0, 1) := dq_42 (by decide +kernel)
theorem dX3_passSound_77 : decode cX3_passSound 77 = .ok (.getfield 43, 3) := dq_180 (b1 := 0) (b2 := 43) (by decide +kernel) (by decide)
theorem dX3_passSound_8 : decode cX3_passSound 8 = .ok (.return_, 1) := dq_177 (by decide +kernel)
theorem dX3_passSound_80 : decode cX3_passSound 80 = .ok (.iload 4, 2) := dq_21 (b1 := 4) (by decide +kernel) (by decide)
theorem dX3_passSound_82 : decode cX3_passSound 82 = .ok (.iadd, 1) := dq_96 (by decide +kernel)
theorem dX3_passSound_83 : decode cX3_passSound 83 = .ok (.sipush 999, 3) := dq_17 (b1 := 3) (b2 := 231) (by decide +kernel) (by decide)
theorem dX3_passSound_86 : decode cX3_passSound 86 = .ok (.invokestatic 63, 3) := dq_184 (b1 := 0) (b2 := 63) (by decide +kernel) (by decide)
theorem dX3_passSound_89 : decode cX3_passSound 89 = .ok (.putfield 43, 3) := dq_181 (b1 := 0) (b2 := 43) (by decide +kernel) (by decide)
theorem dX3_passSound_9 : decode cX3_passSound 9 = .ok (.aload_n 0, 1) := dq_42 (by decide +kernel)
theorem dX3_passSound_92 : decode cX3_passSound 92 = .ok (.return_, 1) := dq_177 (by decide +kernel)
theorem dX3_pass_0 : decode cX3_pass 0 = .ok (.aload_n 0, 1) := dq_42 (by decide +kernel)
theorem dX3_pass_1 : decode cX3_pass 1 = .ok (.iconst 0, 1) := dq_3 (by decide +kernel)
theorem dX3_pass_10 : decode cX3_pass 10 = .ok (.getfield 49, 3) := dq_180 (b1 := 0) (b2 := 49) (by decide +kernel) (by decide)
theorem dX3_pass_13 : decode cX3_pass 13 = .ok (.if_icmp .ge 15, 3) := dq_162 (b1 := 0) (b2 := 15) (by decide +kernel) (by decide)
theorem dX3_pass_16 : decode cX3_pass 16 = .ok (.aload_n 0, 1) := dq_42 (by decide +kernel)
theorem dX3_pass_17 : decode cX3_pass 17 = .ok (.iload_n 2, 1) := dq_28 (by decide +kernel)
theorem dX3_pass_18 : decode cX3_pass 18 = .ok (.iload_n 1, 1) := dq_27 (by decide +kernel)
theorem dX3_pass_19 : decode cX3_pass 19 = .ok (.invokevirtual 90, 3) := dq_182 (b1 := 0) (b2 := 90) (by decide +kernel) (by decide)
theorem dX3_pass_2 : decode cX3_pass 2 = .ok (.invokevirtual 87, 3) := dq_182 (b1 := 0) (b2 := 87) (by decide +kernel) (by decide)
theorem dX3_pass_22 : decode cX3_pass 22 = .ok (.iinc 2 1, 3) := dq_132 (b1 := 2) (b2 := 1) (by decide +kernel) (by decide) (by decide)
theorem dX3_pass_25 : decode cX3_pass 25 = .ok (.goto (-17), 3) := dq_167 (b1 := 255) (b2 := 239) (by decide +kernel) (by decide)
theorem dX3_pass_28 : decode cX3_pass 28 = .ok (.aload_n 0, 1) := dq_42 (by decide +kernel)
theorem dX3_pass_29 : decode cX3_pass 29 = .ok (.dup, 1) := dq_89 (by decide +kernel)
theorem dX3_pass_30 : decode cX3_pass 30 = .ok (.getfield 40, 3) := dq_180 (b1 := 0) (b2 := 40) (by decide +kernel) (by decide)
theorem dX3_pass_33 : decode cX3_pass 33 = .ok (.iconst 1, 1) := dq_4 (by decide +kernel)
theorem dX3_pass_34 : decode cX3_pass 34 = .ok (.iadd, 1) := dq_96 (by decide +kernel)
theorem dX3_pass_35 : decode cX3_pass 35 = .ok (.putfield 40, 3) := dq_181 (b1 := 0) (b2 := 40) (by decide +kernel) (by decide)
theorem dX3_pass_38 : decode cX3_pass 38 = .ok (.return_, 1) := dq_177 (by decide +kernel)
theorem dX3_pass_5 : decode cX3_pass 5 = .ok (.istore_n 1, 1) := dq_60 (by decide +kernel)
theorem dX3_pass_6 : decode cX3_pass 6 = .ok (.iconst 0, 1) := dq_3 (by decide +kernel)
theorem dX3_pass_7 : decode cX3_pass 7 = .ok (.istore_n 2, 1) := dq_61 (by decide +kernel)
theorem dX3_pass_8 : decode cX3_pass 8 = .ok (.iload_n 2, 1) := dq_28 (by decide +kernel)
theorem dX3_pass_9 : decode cX3_pass 9 = .ok (.aload_n 0, 1) := dq_42 (by decide +kernel)
theorem dX3_soundsThatAre_0 : decode cX3_soundsThatAre 0 = .ok (.iconst 0, 1) := dq_3 (by decide +kernel)
theorem dX3_soundsThatAre_1 : decode cX3_soundsThatAre 1 = .ok (.istore_n 2, 1) := dq_61 (by decide +kernel)
theorem dX3_soundsThatAre_12 : decode cX3_soundsThatAre 12 = .ok (.iload_n 2, 1) := dq_28 (by decide +kernel)
theorem dX3_soundsThatAre_13 : decode cX3_soundsThatAre 13 = .ok (.aload_n 0, 1) := dq_42 (by decide +kernel)
theorem dX3_soundsThatAre_14 : decode cX3_soundsThatAre 14 = .ok (.getfield 24, 3) := dq_180 (b1 := 0) (b2 := 24) (by decide +kernel) (by decide)
theorem dX3_soundsThatAre_17 : decode cX3_soundsThatAre 17 = .ok (.iload_n 3, 1) := dq_29 (by decide +kernel)
theorem dX3_soundsThatAre_18 : decode cX3_soundsThatAre 18 = .ok (.iaload, 1) := dq_46 (by decide +kernel)
theorem dX3_soundsThatAre_19 : decode cX3_soundsThatAre 19 = .ok (.iload_n 1, 1) := dq_27 (by decide +kernel)
theorem dX3_soundsThatAre_2 : decode cX3_soundsThatAre 2 = .ok (.iconst 0, 1) := dq_3 (by decide +kernel)
theorem dX3_soundsThatAre_20 : decode cX3_soundsThatAre 20 = .ok (.if_icmp .ne 9, 3) := dq_160 (b1 := 0) (b2 := 9) (by decide +kernel) (by decide)
theorem dX3_soundsThatAre_23 : decode cX3_soundsThatAre 23 = .ok (.iconst 1, 1) := dq_4 (by decide +kernel)
theorem dX3_soundsThatAre_24 : decode cX3_soundsThatAre 24 = .ok (.iload_n 3, 1) := dq_29 (by decide +kernel)
theorem dX3_soundsThatAre_25 : decode cX3_soundsThatAre 25 = .ok (.ishl, 1) := dq_120 (by decide +kernel)
theorem dX3_soundsThatAre_26 : decode cX3_soundsThatAre 26 = .ok (.goto 4, 3) := dq_167 (b1 := 0) (b2 := 4) (by decide +kernel) (by decide)
theorem dX3_soundsThatAre_29 : decode cX3_soundsThatAre 29 = .ok (.iconst 0, 1) := dq_3 (by decide +kernel)
theorem dX3_soundsThatAre_3 : decode cX3_soundsThatAre 3 = .ok (.istore_n 3, 1) := dq_62 (by decide +kernel)
theorem dX3_soundsThatAre_30 : decode cX3_soundsThatAre 30 = .ok (.ior, 1) := dq_128 (by decide +kernel)
theorem dX3_soundsThatAre_31 : decode cX3_soundsThatAre 31 = .ok (.istore_n 2, 1) := dq_61 (by decide +kernel)
theorem dX3_soundsThatAre_32 : decode cX3_soundsThatAre 32 = .ok (.iinc 3 1, 3) := dq_132 (b1 := 3) (b2 := 1) (by decide +kernel) (by decide) (by decide)
theorem dX3_soundsThatAre_35 : decode cX3_soundsThatAre 35 = .ok (.goto (-31), 3) := dq_167 (b1 := 255) (b2 := 225) (by decide +kernel) (by decide)
theorem dX3_soundsThatAre_38 : decode cX3_soundsThatAre 38 = .ok (.iload_n 2, 1) := dq_28 (by decide +kernel)
theorem dX3_soundsThatAre_39 : decode cX3_soundsThatAre 39 = .ok (.ireturn, 1) := dq_172 (by decide +kernel)
theorem dX3_soundsThatAre_4 : decode cX3_soundsThatAre 4 = .ok (.iload_n 3, 1) := dq_29 (by decide +kernel)
theorem dX3_soundsThatAre_5 : decode cX3_soundsThatAre 5 = .ok (.aload_n 0, 1) := dq_42 (by decide +kernel)
theorem dX3_soundsThatAre_6 : decode cX3_soundsThatAre 6 = .ok (.getfield 49, 3) := dq_180 (b1 := 0) (b2 := 49) (by decide +kernel) (by decide)
theorem dX3_soundsThatAre_9 : decode cX3_soundsThatAre 9 = .ok (.if_icmp .ge 29, 3) := dq_162 (b1 := 0) (b2 := 29) (by decide +kernel) (by decide)
theorem dX3_tellOf_0 : decode cX3_tellOf 0 = .ok (.iload_n 2, 1) := dq_28 (by decide +kernel)
theorem dX3_tellOf_1 : decode cX3_tellOf 1 = .ok (.ifCond .ne 23, 3) := dq_154 (b1 := 0) (b2 := 23) (by decide +kernel) (by decide)
theorem dX3_tellOf_12 : decode cX3_tellOf 12 = .ok (.aload_n 0, 1) := dq_42 (by decide +kernel)
theorem dX3_tellOf_13 : decode cX3_tellOf 13 = .ok (.getfield 18, 3) := dq_180 (b1 := 0) (b2 := 18) (by decide +kernel) (by decide)
theorem dX3_tellOf_16 : decode cX3_tellOf 16 = .ok (.iload_n 1, 1) := dq_27 (by decide +kernel)
theorem dX3_tellOf_17 : decode cX3_tellOf 17 = .ok (.iaload, 1) := dq_46 (by decide +kernel)
theorem dX3_tellOf_18 : decode cX3_tellOf 18 = .ok (.goto 5, 3) := dq_167 (b1 := 0) (b2 := 5) (by decide +kernel) (by decide)
theorem dX3_tellOf_21 : decode cX3_tellOf 21 = .ok (.ldc 62, 2) := dq_18 (b1 := 62) (by decide +kernel) (by decide)
theorem dX3_tellOf_23 : decode cX3_tellOf 23 = .ok (.ireturn, 1) := dq_172 (by decide +kernel)
theorem dX3_tellOf_24 : decode cX3_tellOf 24 = .ok (.iload_n 2, 1) := dq_28 (by decide +kernel)
theorem dX3_tellOf_25 : decode cX3_tellOf 25 = .ok (.iconst 1, 1) := dq_4 (by decide +kernel)
theorem dX3_tellOf_26 : decode cX3_tellOf 26 = .ok (.if_icmp .ne 12, 3) := dq_160 (b1 := 0) (b2 := 12) (by decide +kernel) (by decide)
theorem dX3_tellOf_29 : decode cX3_tellOf 29 = .ok (.aload_n 0, 1) := dq_42 (by decide +kernel)
theorem dX3_tellOf_30 : decode cX3_tellOf 30 = .ok (.getfield 24, 3) := dq_180 (b1 := 0) (b2 := 24) (by decide +kernel) (by decide)
theorem dX3_tellOf_33 : decode cX3_tellOf 33 = .ok (.iload_n 1, 1) := dq_27 (by decide +kernel)
theorem dX3_tellOf_34 : decode cX3_tellOf 34 = .ok (.iaload, 1) := dq_46 (by decide +kernel)
theorem dX3_tellOf_35 : decode cX3_tellOf 35 = .ok (.goto 9, 3) := dq_167 (b1 := 0) (b2 := 9) (by decide +kernel) (by decide)
theorem dX3_tellOf_38 : decode cX3_tellOf 38 = .ok (.aload_n 0, 1) := dq_42 (by decide +kernel)
theorem dX3_tellOf_39 : decode cX3_tellOf 39 = .ok (.getfield 21, 3) := dq_180 (b1 := 0) (b2 := 21) (by decide +kernel) (by decide)
theorem dX3_tellOf_4 : decode cX3_tellOf 4 = .ok (.aload_n 0, 1) := dq_42 (by decide +kernel)
theorem dX3_tellOf_42 : decode cX3_tellOf 42 = .ok (.iload_n 1, 1) := dq_27 (by decide +kernel)
theorem dX3_tellOf_43 : decode cX3_tellOf 43 = .ok (.iaload, 1) := dq_46 (by decide +kernel)
theorem dX3_tellOf_44 : decode cX3_tellOf 44 = .ok (.ireturn, 1) := dq_172 (by decide +kernel)
theorem dX3_tellOf_5 : decode cX3_tellOf 5 = .ok (.iload_n 1, 1) := dq_27 (by decide +kernel)
theorem dX3_tellOf_6 : decode cX3_tellOf 6 = .ok (.invokevirtual 58, 3) := dq_182 (b1 := 0) (b2 := 58) (by decide +kernel) (by decide)
theorem dX3_tellOf_9 : decode cX3_tellOf 9 = .ok (.ifCond .eq 12, 3) := dq_153 (b1 := 0) (b2 := 12) (by decide +kernel) (by decide)
theorem dX3_turnCap_0 : decode cX3_turnCap 0 = .ok (.aload_n 0, 1) := dq_42 (by decide +kernel)
theorem dX3_turnCap_1 : decode cX3_turnCap 1 = .ok (.iconst 1, 1) := dq_4 (by decide +kernel)
theorem dX3_turnCap_10 : decode cX3_turnCap 10 = .ok (.return_, 1) := dq_177 (by decide +kernel)
theorem dX3_turnCap_2 : decode cX3_turnCap 2 = .ok (.aload_n 0, 1) := dq_42 (by decide +kernel)
theorem dX3_turnCap_3 : decode cX3_turnCap 3 = .ok (.getfield 37, 3) := dq_180 (b1 := 0) (b2 := 37) (by decide +kernel) (by decide)
theorem dX3_turnCap_6 : decode cX3_turnCap 6 = .ok (.isub, 1) := dq_100 (by decide +kernel)
theorem dX3_turnCap_7 : decode cX3_turnCap 7 = .ok (.putfield 37, 3) := dq_181 (b1 := 0) (b2 := 37) (by decide +kernel) (by decide)
theorem dX3_turnWind_0 : decode cX3_turnWind 0 = .ok (.aload_n 0, 1) := dq_42 (by decide +kernel)
theorem dX3_turnWind_1 : decode cX3_turnWind 1 = .ok (.getfield 46, 3) := dq_180 (b1 := 0) (b2 := 46) (by decide +kernel) (by decide)
theorem dX3_turnWind_11 : decode cX3_turnWind 11 = .ok (.aload_n 0, 1) := dq_42 (by decide +kernel)
theorem dX3_turnWind_12 : decode cX3_turnWind 12 = .ok (.getfield 46, 3) := dq_180 (b1 := 0) (b2 := 46) (by decide +kernel) (by decide)
theorem dX3_turnWind_15 : decode cX3_turnWind 15 = .ok (.irem, 1) := dq_112 (by decide +kernel)
theorem dX3_turnWind_16 : decode cX3_turnWind 16 = .ok (.istore_n 1, 1) := dq_60 (by decide +kernel)
theorem dX3_turnWind_17 : decode cX3_turnWind 17 = .ok (.aload_n 0, 1) := dq_42 (by decide +kernel)
theorem dX3_turnWind_18 : decode cX3_turnWind 18 = .ok (.getfield 9, 3) := dq_180 (b1 := 0) (b2 := 9) (by decide +kernel) (by decide)
theorem dX3_turnWind_21 : decode cX3_turnWind 21 = .ok (.iload_n 1, 1) := dq_27 (by decide +kernel)
theorem dX3_turnWind_22 : decode cX3_turnWind 22 = .ok (.iconst 4, 1) := dq_7 (by decide +kernel)
theorem dX3_turnWind_23 : decode cX3_turnWind 23 = .ok (.aload_n 0, 1) := dq_42 (by decide +kernel)
theorem dX3_turnWind_24 : decode cX3_turnWind 24 = .ok (.getfield 9, 3) := dq_180 (b1 := 0) (b2 := 9) (by decide +kernel) (by decide)
theorem dX3_turnWind_27 : decode cX3_turnWind 27 = .ok (.iload_n 1, 1) := dq_27 (by decide +kernel)
theorem dX3_turnWind_28 : decode cX3_turnWind 28 = .ok (.iaload, 1) := dq_46 (by decide +kernel)
theorem dX3_turnWind_29 : decode cX3_turnWind 29 = .ok (.isub, 1) := dq_100 (by decide +kernel)
theorem dX3_turnWind_30 : decode cX3_turnWind 30 = .ok (.iastore, 1) := dq_79 (by decide +kernel)
theorem dX3_turnWind_31 : decode cX3_turnWind 31 = .ok (.return_, 1) := dq_177 (by decide +kernel)
theorem dX3_turnWind_4 : decode cX3_turnWind 4 = .ok (.ifCond .le 27, 3) := dq_158 (b1 := 0) (b2 := 27) (by decide +kernel) (by decide)
theorem dX3_turnWind_7 : decode cX3_turnWind 7 = .ok (.aload_n 0, 1) := dq_42 (by decide +kernel)
theorem dX3_turnWind_8 : decode cX3_turnWind 8 = .ok (.getfield 40, 3) := dq_180 (b1 := 0) (b2 := 40) (by decide +kernel) (by decide)
theorem dX3_windOn_0 : decode cX3_windOn 0 = .ok (.aload_n 0, 1) := dq_42 (by decide +kernel)
theorem dX3_windOn_1 : decode cX3_windOn 1 = .ok (.getfield 46, 3) := dq_180 (b1 := 0) (b2 := 46) (by decide +kernel) (by decide)
theorem dX3_windOn_11 : decode cX3_windOn 11 = .ok (.aload_n 0, 1) := dq_42 (by decide +kernel)
theorem dX3_windOn_12 : decode cX3_windOn 12 = .ok (.getfield 9, 3) := dq_180 (b1 := 0) (b2 := 9) (by decide +kernel) (by decide)
theorem dX3_windOn_15 : decode cX3_windOn 15 = .ok (.aload_n 0, 1) := dq_42 (by decide +kernel)
theorem dX3_windOn_16 : decode cX3_windOn 16 = .ok (.getfield 40, 3) := dq_180 (b1 := 0) (b2 := 40) (by decide +kernel) (by decide)
theorem dX3_windOn_19 : decode cX3_windOn 19 = .ok (.iload_n 1, 1) := dq_27 (by decide +kernel)
theorem dX3_windOn_20 : decode cX3_windOn 20 = .ok (.iadd, 1) := dq_96 (by decide +kernel)
theorem dX3_windOn_21 : decode cX3_windOn 21 = .ok (.aload_n 0, 1) := dq_42 (by decide +kernel)
theorem dX3_windOn_22 : decode cX3_windOn 22 = .ok (.getfield 46, 3) := dq_180 (b1 := 0) (b2 := 46) (by decide +kernel) (by decide)
theorem dX3_windOn_25 : decode cX3_windOn 25 = .ok (.irem, 1) := dq_112 (by decide +kernel)
theorem dX3_windOn_26 : decode cX3_windOn 26 = .ok (.iaload, 1) := dq_46 (by decide +kernel)
theorem dX3_windOn_27 : decode cX3_windOn 27 = .ok (.ireturn, 1) := dq_172 (by decide +kernel)
theorem dX3_windOn_4 : decode cX3_windOn 4 = .ok (.ifCond .gt 7, 3) := dq_157 (b1 := 0) (b2 := 7) (by decide +kernel) (by decide)
theorem dX3_windOn_7 : decode cX3_windOn 7 = .ok (.iconst 2, 1) := dq_5 (by decide +kernel)
theorem dX3_windOn_8 : decode cX3_windOn 8 = .ok (.goto 19, 3) := dq_167 (b1 := 0) (b2 := 19) (by decide +kernel) (by decide)
theorem mb_X3_mealBehind_wsX3_mealBehind_r1 {w : Cond} (h : w ∈ wsX3_mealBehind_r1) : w ∈ wsX3_mealBehind := by unfold wsX3_mealBehind; exact List.mem_cons_of_mem _ (List.mem_append_left _ (List.mem_append_left _ (h)))
theorem mx_X3_mealBehind_6 : Cond.code yX3_pass cX3_pass 3 none ∈ wsX3_mealBehind := mb_X3_mealBehind_wsX3_mealBehind_r1 (List.mem_of_getElem? (i := 5) rfl)
theorem mx_X3_mealBehind_7 : Cond.fieldLink RX3 49 "MillTalk$Level" "soundCount" "I" ∈ wsX3_mealBehind := mb_X3_mealBehind_wsX3_mealBehind_r1 (List.mem_of_getElem? (i := 6) rfl)
theorem mx_X3_mealBehind_8 : Cond.fieldLink RX3 40 "MillTalk$Level" "hour" "I" ∈ wsX3_mealBehind := mb_X3_mealBehind_wsX3_mealBehind_r1 (List.mem_of_getElem? (i := 7) rfl)
theorem mx_X3_mealBehind_9 : Cond.methodLink RX3 87 yX3_windOn ∈ wsX3_mealBehind := mb_X3_mealBehind_wsX3_mealBehind_r1 (List.mem_of_getElem? (i := 8) rfl)
theorem mx_X3_mealBehind_10 : Cond.instanceMethod yX3_windOn ∈ wsX3_mealBehind := mb_X3_mealBehind_wsX3_mealBehind_r1 (List.mem_of_getElem? (i := 9) rfl)
theorem mx_X3_mealBehind_11 : Cond.selects RX3 yX3_windOn yX3_windOn ∈ wsX3_mealBehind := mb_X3_mealBehind_wsX3_mealBehind_r1 (List.mem_of_getElem? (i := 10) rfl)
theorem mx_X3_mealBehind_5 : Cond.initialized RX3 ∈ wsX3_mealBehind := mb_X3_mealBehind_wsX3_mealBehind_r1 (List.mem_of_getElem? (i := 4) rfl)
theorem mx_X3_mealBehind_12 : Cond.code yX3_windOn cX3_windOn 2 (some .int) ∈ wsX3_mealBehind := mb_X3_mealBehind_wsX3_mealBehind_r1 (List.mem_of_getElem? (i := 11) rfl)
theorem mx_X3_mealBehind_13 : Cond.fieldLink RX3 46 "MillTalk$Level" "windCount" "I" ∈ wsX3_mealBehind := mb_X3_mealBehind_wsX3_mealBehind_r1 (List.mem_of_getElem? (i := 12) rfl)
theorem mx_X3_mealBehind_14 : Cond.fieldLink RX3 9 "MillTalk$Level" "winds" "[I" ∈ wsX3_mealBehind := mb_X3_mealBehind_wsX3_mealBehind_r1 (List.mem_of_getElem? (i := 13) rfl)
theorem mx_X3_mealBehind_15 : Cond.methodLink RX3 90 yX3_passSound ∈ wsX3_mealBehind := mb_X3_mealBehind_wsX3_mealBehind_r1 (List.mem_of_getElem? (i := 14) rfl)
theorem mx_X3_mealBehind_16 : Cond.instanceMethod yX3_passSound ∈ wsX3_mealBehind := mb_X3_mealBehind_wsX3_mealBehind_r1 (List.mem_of_getElem? (i := 15) rfl)
theorem mx_X3_mealBehind_17 : Cond.selects RX3 yX3_passSound yX3_passSound ∈ wsX3_mealBehind := mb_X3_mealBehind_wsX3_mealBehind_r1 (List.mem_of_getElem? (i := 16) rfl)
theorem mx_X3_mealBehind_18 : Cond.code yX3_passSound cX3_passSound 5 none ∈ wsX3_mealBehind := mb_X3_mealBehind_wsX3_mealBehind_r1 (List.mem_of_getElem? (i := 17) rfl)
theorem mx_X3_mealBehind_19 : Cond.fieldLink RX3 18 "MillTalk$Level" "places" "[I" ∈ wsX3_mealBehind := mb_X3_mealBehind_wsX3_mealBehind_r1 (List.mem_of_getElem? (i := 18) rfl)
theorem mx_X3_mealBehind_20 : Cond.fieldLink RX3 24 "MillTalk$Level" "hows" "[I" ∈ wsX3_mealBehind := mb_X3_mealBehind_wsX3_mealBehind_r1 (List.mem_of_getElem? (i := 19) rfl)
theorem mx_X3_mealBehind_1 : Cond.fieldLink RX3 43 "MillTalk$Level" "meal" "I" ∈ wsX3_mealBehind := mb_X3_mealBehind_wsX3_mealBehind_r1 (List.mem_of_getElem? (i := 0) rfl)
theorem mx_X3_mealBehind_21 : Cond.methodLink RX3 63 Lib.Math.min.name ∈ wsX3_mealBehind := mb_X3_mealBehind_wsX3_mealBehind_r1 (List.mem_of_getElem? (i := 20) rfl)
theorem mx_X3_mealBehind_22 : Cond.static Lib.Math.min.name ∈ wsX3_mealBehind := mb_X3_mealBehind_wsX3_mealBehind_r1 (List.mem_of_getElem? (i := 21) rfl)
theorem mx_X3_mealBehind_23 : Cond.initialized "java/lang/Math" ∈ wsX3_mealBehind := mb_X3_mealBehind_wsX3_mealBehind_r1 (List.mem_of_getElem? (i := 22) rfl)
theorem mx_X3_mealBehind_24 : Cond.code Lib.Math.min.name Lib.Math.min.code 2 (some .int) ∈ wsX3_mealBehind := mb_X3_mealBehind_wsX3_mealBehind_r1 (List.mem_of_getElem? (i := 23) rfl)
theorem mb_X3_mealBehind_wsX3_mealBehind_r2 {w : Cond} (h : w ∈ wsX3_mealBehind_r2) : w ∈ wsX3_mealBehind := by unfold wsX3_mealBehind; exact List.mem_cons_of_mem _ (List.mem_append_left _ (List.mem_append_right _ (List.mem_append_left _ (h))))
theorem mx_X3_mealBehind_25 : Cond.methodLink RX3 58 yX3_isLoose ∈ wsX3_mealBehind := mb_X3_mealBehind_wsX3_mealBehind_r2 (List.mem_of_getElem? (i := 0) rfl)
theorem mx_X3_mealBehind_26 : Cond.instanceMethod yX3_isLoose ∈ wsX3_mealBehind := mb_X3_mealBehind_wsX3_mealBehind_r2 (List.mem_of_getElem? (i := 1) rfl)
theorem mx_X3_mealBehind_27 : Cond.selects RX3 yX3_isLoose yX3_isLoose ∈ wsX3_mealBehind := mb_X3_mealBehind_wsX3_mealBehind_r2 (List.mem_of_getElem? (i := 2) rfl)
theorem mx_X3_mealBehind_28 : Cond.code yX3_isLoose cX3_isLoose 2 (some .boolean) ∈ wsX3_mealBehind := mb_X3_mealBehind_wsX3_mealBehind_r2 (List.mem_of_getElem? (i := 3) rfl)
theorem mx_X3_mealBehind_29 : Cond.methodLink RX3 69 yX3_driftOf ∈ wsX3_mealBehind := mb_X3_mealBehind_wsX3_mealBehind_r2 (List.mem_of_getElem? (i := 4) rfl)
theorem mx_X3_mealBehind_30 : Cond.instanceMethod yX3_driftOf ∈ wsX3_mealBehind := mb_X3_mealBehind_wsX3_mealBehind_r2 (List.mem_of_getElem? (i := 5) rfl)
theorem mx_X3_mealBehind_31 : Cond.selects RX3 yX3_driftOf yX3_driftOf ∈ wsX3_mealBehind := mb_X3_mealBehind_wsX3_mealBehind_r2 (List.mem_of_getElem? (i := 6) rfl)
theorem mx_X3_mealBehind_32 : Cond.code yX3_driftOf cX3_driftOf 4 (some .int) ∈ wsX3_mealBehind := mb_X3_mealBehind_wsX3_mealBehind_r2 (List.mem_of_getElem? (i := 7) rfl)
theorem mx_X3_mealBehind_33 : Cond.fieldLink RX3 15 "MillTalk$Level" "kinds" "[I" ∈ wsX3_mealBehind := mb_X3_mealBehind_wsX3_mealBehind_r2 (List.mem_of_getElem? (i := 8) rfl)
theorem mx_X3_mealBehind_34 : Cond.methodLink RX3 72 yX3_loudBehindHour ∈ wsX3_mealBehind := mb_X3_mealBehind_wsX3_mealBehind_r2 (List.mem_of_getElem? (i := 9) rfl)
theorem mx_X3_mealBehind_35 : Cond.instanceMethod yX3_loudBehindHour ∈ wsX3_mealBehind := mb_X3_mealBehind_wsX3_mealBehind_r2 (List.mem_of_getElem? (i := 10) rfl)
theorem mx_X3_mealBehind_36 : Cond.selects RX3 yX3_loudBehindHour yX3_loudBehindHour ∈ wsX3_mealBehind := mb_X3_mealBehind_wsX3_mealBehind_r2 (List.mem_of_getElem? (i := 11) rfl)
theorem mx_X3_mealBehind_37 : Cond.code yX3_loudBehindHour cX3_loudBehindHour 2 (some .int) ∈ wsX3_mealBehind := mb_X3_mealBehind_wsX3_mealBehind_r2 (List.mem_of_getElem? (i := 12) rfl)
theorem mx_X3_mealBehind_38 : Cond.fieldLink RX3 21 "MillTalk$Level" "louds" "[I" ∈ wsX3_mealBehind := mb_X3_mealBehind_wsX3_mealBehind_r2 (List.mem_of_getElem? (i := 13) rfl)
theorem mx_X3_mealBehind_39 : Cond.methodLink RX3 76 yX3_hasCell ∈ wsX3_mealBehind := mb_X3_mealBehind_wsX3_mealBehind_r2 (List.mem_of_getElem? (i := 14) rfl)
theorem mx_X3_mealBehind_40 : Cond.instanceMethod yX3_hasCell ∈ wsX3_mealBehind := mb_X3_mealBehind_wsX3_mealBehind_r2 (List.mem_of_getElem? (i := 15) rfl)
theorem mx_X3_mealBehind_41 : Cond.selects RX3 yX3_hasCell yX3_hasCell ∈ wsX3_mealBehind := mb_X3_mealBehind_wsX3_mealBehind_r2 (List.mem_of_getElem? (i := 16) rfl)
theorem mx_X3_mealBehind_42 : Cond.code yX3_hasCell cX3_hasCell 2 (some .boolean) ∈ wsX3_mealBehind := mb_X3_mealBehind_wsX3_mealBehind_r2 (List.mem_of_getElem? (i := 17) rfl)
theorem mx_X3_mealBehind_43 : Cond.fieldLink RX3 27 "MillTalk$Level" "cells" "I" ∈ wsX3_mealBehind := mb_X3_mealBehind_wsX3_mealBehind_r2 (List.mem_of_getElem? (i := 18) rfl)
theorem mx_X3_mealBehind_44 : Cond.methodLink RX3 79 yX3_letLoose ∈ wsX3_mealBehind := mb_X3_mealBehind_wsX3_mealBehind_r2 (List.mem_of_getElem? (i := 19) rfl)
theorem mx_X3_mealBehind_45 : Cond.instanceMethod yX3_letLoose ∈ wsX3_mealBehind := mb_X3_mealBehind_wsX3_mealBehind_r2 (List.mem_of_getElem? (i := 20) rfl)
theorem mx_X3_mealBehind_46 : Cond.selects RX3 yX3_letLoose yX3_letLoose ∈ wsX3_mealBehind := mb_X3_mealBehind_wsX3_mealBehind_r2 (List.mem_of_getElem? (i := 21) rfl)
theorem mx_X3_mealBehind_47 : Cond.code yX3_letLoose cX3_letLoose 4 none ∈ wsX3_mealBehind := mb_X3_mealBehind_wsX3_mealBehind_r2 (List.mem_of_getElem? (i := 22) rfl)
theorem mx_X3_mealBehind_48 : Cond.methodLink RX3 83 yX3_grindsAt ∈ wsX3_mealBehind := mb_X3_mealBehind_wsX3_mealBehind_r2 (List.mem_of_getElem? (i := 23) rfl)
theorem mb_X3_mealBehind_wsX3_mealBehind_r3 {w : Cond} (h : w ∈ wsX3_mealBehind_r3) : w ∈ wsX3_mealBehind := by unfold wsX3_mealBehind; exact List.mem_cons_of_mem _ (List.mem_append_left _ (List.mem_append_right _ (List.mem_append_right _ (h))))
theorem mx_X3_mealBehind_49 : Cond.instanceMethod yX3_grindsAt ∈ wsX3_mealBehind := mb_X3_mealBehind_wsX3_mealBehind_r3 (List.mem_of_getElem? (i := 0) rfl)
theorem mx_X3_mealBehind_50 : Cond.selects RX3 yX3_grindsAt yX3_grindsAt ∈ wsX3_mealBehind := mb_X3_mealBehind_wsX3_mealBehind_r3 (List.mem_of_getElem? (i := 1) rfl)
theorem mx_X3_mealBehind_51 : Cond.code yX3_grindsAt cX3_grindsAt 4 (some .boolean) ∈ wsX3_mealBehind := mb_X3_mealBehind_wsX3_mealBehind_r3 (List.mem_of_getElem? (i := 2) rfl)
theorem mx_X3_mealBehind_52 : Cond.fieldLink RX3 37 "MillTalk$Level" "cap" "I" ∈ wsX3_mealBehind := mb_X3_mealBehind_wsX3_mealBehind_r3 (List.mem_of_getElem? (i := 3) rfl)
theorem mx_X3_mealBehind_53 : Cond.fieldLink RX3 31 "MillTalk$Level" "mill" "I" ∈ wsX3_mealBehind := mb_X3_mealBehind_wsX3_mealBehind_r3 (List.mem_of_getElem? (i := 4) rfl)
theorem mx_X3_mealBehind_54 : Cond.fieldLink RX3 34 "MillTalk$Level" "reach" "I" ∈ wsX3_mealBehind := mb_X3_mealBehind_wsX3_mealBehind_r3 (List.mem_of_getElem? (i := 5) rfl)
theorem mb_X3_mealBehind_wsX30 {w : Cond} (h : w ∈ wsX30) : w ∈ wsX3_mealBehind := by unfold wsX3_mealBehind; exact List.mem_cons_of_mem _ (List.mem_append_right _ (h))
theorem ggX3_mealBehind_X3_pass : GoodIn wsX3_mealBehind wsX3_pass := goodIn_sub (by unfold wsX3_pass; exact List.forall_mem_cons.mpr ⟨mx_X3_mealBehind_6, List.forall_mem_append.mpr ⟨List.forall_mem_append.mpr ⟨(by unfold wsX3_pass_r1; exact List.forall_mem_cons.mpr ⟨mx_X3_mealBehind_7, List.forall_mem_cons.mpr ⟨mx_X3_mealBehind_8, List.forall_mem_cons.mpr ⟨mx_X3_mealBehind_9, List.forall_mem_cons.mpr ⟨mx_X3_mealBehind_10, List.forall_mem_cons.mpr ⟨mx_X3_mealBehind_11, List.forall_mem_cons.mpr ⟨mx_X3_mealBehind_5, List.forall_mem_cons.mpr ⟨mx_X3_mealBehind_12, List.forall_mem_cons.mpr ⟨mx_X3_mealBehind_13, List.forall_mem_cons.mpr ⟨mx_X3_mealBehind_14, List.forall_mem_cons.mpr ⟨mx_X3_mealBehind_15, List.forall_mem_cons.mpr ⟨mx_X3_mealBehind_16, List.forall_mem_cons.mpr ⟨mx_X3_mealBehind_17, List.forall_mem_cons.mpr ⟨mx_X3_mealBehind_18, List.forall_mem_cons.mpr ⟨mx_X3_mealBehind_19, List.forall_mem_cons.mpr ⟨mx_X3_mealBehind_20, List.forall_mem_cons.mpr ⟨mx_X3_mealBehind_1, List.forall_mem_cons.mpr ⟨mx_X3_mealBehind_21, List.forall_mem_cons.mpr ⟨mx_X3_mealBehind_22, List.forall_mem_cons.mpr ⟨mx_X3_mealBehind_23, List.forall_mem_cons.mpr ⟨mx_X3_mealBehind_24, List.forall_mem_cons.mpr ⟨mx_X3_mealBehind_25, List.forall_mem_cons.mpr ⟨mx_X3_mealBehind_26, List.forall_mem_cons.mpr ⟨mx_X3_mealBehind_27, List.forall_mem_cons.mpr ⟨mx_X3_mealBehind_28, fun _ h_ => absurd h_ List.not_mem_nil⟩⟩⟩⟩⟩⟩⟩⟩⟩⟩⟩⟩⟩⟩⟩⟩⟩⟩⟩⟩⟩⟩⟩⟩), List.forall_mem_append.mpr ⟨(by unfold wsX3_pass_r2; exact List.forall_mem_cons.mpr ⟨mx_X3_mealBehind_29, List.forall_mem_cons.mpr ⟨mx_X3_mealBehind_30, List.forall_mem_cons.mpr ⟨mx_X3_mealBehind_31, List.forall_mem_cons.mpr ⟨mx_X3_mealBehind_32, List.forall_mem_cons.mpr ⟨mx_X3_mealBehind_33, List.forall_mem_cons.mpr ⟨mx_X3_mealBehind_34, List.forall_mem_cons.mpr ⟨mx_X3_mealBehind_35, List.forall_mem_cons.mpr ⟨mx_X3_mealBehind_36, List.forall_mem_cons.mpr ⟨mx_X3_mealBehind_37, List.forall_mem_cons.mpr ⟨mx_X3_mealBehind_38, List.forall_mem_cons.mpr ⟨mx_X3_mealBehind_39, List.forall_mem_cons.mpr ⟨mx_X3_mealBehind_40, List.forall_mem_cons.mpr ⟨mx_X3_mealBehind_41, List.forall_mem_cons.mpr ⟨mx_X3_mealBehind_42, List.forall_mem_cons.mpr ⟨mx_X3_mealBehind_43, List.forall_mem_cons.mpr ⟨mx_X3_mealBehind_44, List.forall_mem_cons.mpr ⟨mx_X3_mealBehind_45, List.forall_mem_cons.mpr ⟨mx_X3_mealBehind_46, List.forall_mem_cons.mpr ⟨mx_X3_mealBehind_47, List.forall_mem_cons.mpr ⟨mx_X3_mealBehind_48, List.forall_mem_cons.mpr ⟨mx_X3_mealBehind_49, List.forall_mem_cons.mpr ⟨mx_X3_mealBehind_50, List.forall_mem_cons.mpr ⟨mx_X3_mealBehind_51, List.forall_mem_cons.mpr ⟨mx_X3_mealBehind_52, fun _ h_ => absurd h_ List.not_mem_nil⟩⟩⟩⟩⟩⟩⟩⟩⟩⟩⟩⟩⟩⟩⟩⟩⟩⟩⟩⟩⟩⟩⟩⟩), (by unfold wsX3_pass_r3; exact List.forall_mem_cons.mpr ⟨mx_X3_mealBehind_53, List.forall_mem_cons.mpr ⟨mx_X3_mealBehind_54, fun _ h_ => absurd h_ List.not_mem_nil⟩⟩)⟩⟩, (fun _ h_ => mb_X3_mealBehind_wsX30 h_)⟩⟩) (by decide +kernel)
theorem mx_X3_mealBehind_2 : Cond.methodLink RX3 94 yX3_pass ∈ wsX3_mealBehind := mb_X3_mealBehind_wsX3_mealBehind_r1 (List.mem_of_getElem? (i := 1) rfl)
theorem mx_X3_mealBehind_3 : Cond.instanceMethod yX3_pass ∈ wsX3_mealBehind := mb_X3_mealBehind_wsX3_mealBehind_r1 (List.mem_of_getElem? (i := 2) rfl)
theorem mx_X3_mealBehind_4 : Cond.selects RX3 yX3_pass yX3_pass ∈ wsX3_mealBehind := mb_X3_mealBehind_wsX3_mealBehind_r1 (List.mem_of_getElem? (i := 3) rfl)
theorem gX3_mealBehind_X3_pass : GoodIn wsX3_mealBehind (wsV RX3 94 RX3 yX3_pass wsX3_pass) := goodIn_app (goodIn_sub (List.forall_mem_cons.mpr ⟨mx_X3_mealBehind_2, List.forall_mem_cons.mpr ⟨mx_X3_mealBehind_3, List.forall_mem_cons.mpr ⟨mx_X3_mealBehind_4, List.forall_mem_cons.mpr ⟨mx_X3_mealBehind_5, fun _ h_ => absurd h_ List.not_mem_nil⟩⟩⟩⟩) (by decide +kernel)) ggX3_mealBehind_X3_pass
theorem mb_X3_passOnly_wsX3_passOnly_r1 {w : Cond} (h : w ∈ wsX3_passOnly_r1) : w ∈ wsX3_passOnly := by unfold wsX3_passOnly; exact List.mem_cons_of_mem _ (List.mem_append_left _ (List.mem_append_left _ (h)))
theorem mx_X3_passOnly_12 : Cond.code yX3_passSound cX3_passSound 5 none ∈ wsX3_passOnly := mb_X3_passOnly_wsX3_passOnly_r1 (List.mem_of_getElem? (i := 11) rfl)
theorem mx_X3_passOnly_13 : Cond.fieldLink RX3 18 "MillTalk$Level" "places" "[I" ∈ wsX3_passOnly := mb_X3_passOnly_wsX3_passOnly_r1 (List.mem_of_getElem? (i := 12) rfl)
theorem mx_X3_passOnly_14 : Cond.fieldLink RX3 24 "MillTalk$Level" "hows" "[I" ∈ wsX3_passOnly := mb_X3_passOnly_wsX3_passOnly_r1 (List.mem_of_getElem? (i := 13) rfl)
theorem mx_X3_passOnly_15 : Cond.fieldLink RX3 43 "MillTalk$Level" "meal" "I" ∈ wsX3_passOnly := mb_X3_passOnly_wsX3_passOnly_r1 (List.mem_of_getElem? (i := 14) rfl)
theorem mx_X3_passOnly_16 : Cond.methodLink RX3 63 Lib.Math.min.name ∈ wsX3_passOnly := mb_X3_passOnly_wsX3_passOnly_r1 (List.mem_of_getElem? (i := 15) rfl)
theorem mx_X3_passOnly_17 : Cond.static Lib.Math.min.name ∈ wsX3_passOnly := mb_X3_passOnly_wsX3_passOnly_r1 (List.mem_of_getElem? (i := 16) rfl)
theorem mx_X3_passOnly_18 : Cond.initialized "java/lang/Math" ∈ wsX3_passOnly := mb_X3_passOnly_wsX3_passOnly_r1 (List.mem_of_getElem? (i := 17) rfl)
theorem mx_X3_passOnly_19 : Cond.code Lib.Math.min.name Lib.Math.min.code 2 (some .int) ∈ wsX3_passOnly := mb_X3_passOnly_wsX3_passOnly_r1 (List.mem_of_getElem? (i := 18) rfl)
theorem mx_X3_passOnly_20 : Cond.methodLink RX3 58 yX3_isLoose ∈ wsX3_passOnly := mb_X3_passOnly_wsX3_passOnly_r1 (List.mem_of_getElem? (i := 19) rfl)
theorem mx_X3_passOnly_21 : Cond.instanceMethod yX3_isLoose ∈ wsX3_passOnly := mb_X3_passOnly_wsX3_passOnly_r1 (List.mem_of_getElem? (i := 20) rfl)
theorem mx_X3_passOnly_22 : Cond.selects RX3 yX3_isLoose yX3_isLoose ∈ wsX3_passOnly := mb_X3_passOnly_wsX3_passOnly_r1 (List.mem_of_getElem? (i := 21) rfl)
theorem mx_X3_passOnly_5 : Cond.initialized RX3 ∈ wsX3_passOnly := mb_X3_passOnly_wsX3_passOnly_r1 (List.mem_of_getElem? (i := 4) rfl)
theorem mx_X3_passOnly_23 : Cond.code yX3_isLoose cX3_isLoose 2 (some .boolean) ∈ wsX3_passOnly := mb_X3_passOnly_wsX3_passOnly_r1 (List.mem_of_getElem? (i := 22) rfl)
theorem mx_X3_passOnly_24 : Cond.methodLink RX3 69 yX3_driftOf ∈ wsX3_passOnly := mb_X3_passOnly_wsX3_passOnly_r1 (List.mem_of_getElem? (i := 23) rfl)
theorem mb_X3_passOnly_wsX3_passOnly_r2 {w : Cond} (h : w ∈ wsX3_passOnly_r2) : w ∈ wsX3_passOnly := by unfold wsX3_passOnly; exact List.mem_cons_of_mem _ (List.mem_append_left _ (List.mem_append_right _ (List.mem_append_left _ (h))))
theorem mx_X3_passOnly_25 : Cond.instanceMethod yX3_driftOf ∈ wsX3_passOnly := mb_X3_passOnly_wsX3_passOnly_r2 (List.mem_of_getElem? (i := 0) rfl)
theorem mx_X3_passOnly_26 : Cond.selects RX3 yX3_driftOf yX3_driftOf ∈ wsX3_passOnly := mb_X3_passOnly_wsX3_passOnly_r2 (List.mem_of_getElem? (i := 1) rfl)
theorem mx_X3_passOnly_27 : Cond.code yX3_driftOf cX3_driftOf 4 (some .int) ∈ wsX3_passOnly := mb_X3_passOnly_wsX3_passOnly_r2 (List.mem_of_getElem? (i := 2) rfl)
theorem mx_X3_passOnly_28 : Cond.fieldLink RX3 15 "MillTalk$Level" "kinds" "[I" ∈ wsX3_passOnly := mb_X3_passOnly_wsX3_passOnly_r2 (List.mem_of_getElem? (i := 3) rfl)
theorem mx_X3_passOnly_29 : Cond.methodLink RX3 72 yX3_loudBehindHour ∈ wsX3_passOnly := mb_X3_passOnly_wsX3_passOnly_r2 (List.mem_of_getElem? (i := 4) rfl)
theorem mx_X3_passOnly_30 : Cond.instanceMethod yX3_loudBehindHour ∈ wsX3_passOnly := mb_X3_passOnly_wsX3_passOnly_r2 (List.mem_of_getElem? (i := 5) rfl)
theorem mx_X3_passOnly_31 : Cond.selects RX3 yX3_loudBehindHour yX3_loudBehindHour ∈ wsX3_passOnly := mb_X3_passOnly_wsX3_passOnly_r2 (List.mem_of_getElem? (i := 6) rfl)
theorem mx_X3_passOnly_32 : Cond.code yX3_loudBehindHour cX3_loudBehindHour 2 (some .int) ∈ wsX3_passOnly := mb_X3_passOnly_wsX3_passOnly_r2 (List.mem_of_getElem? (i := 7) rfl)
theorem mx_X3_passOnly_33 : Cond.fieldLink RX3 21 "MillTalk$Level" "louds" "[I" ∈ wsX3_passOnly := mb_X3_passOnly_wsX3_passOnly_r2 (List.mem_of_getElem? (i := 8) rfl)
theorem mx_X3_passOnly_34 : Cond.methodLink RX3 76 yX3_hasCell ∈ wsX3_passOnly := mb_X3_passOnly_wsX3_passOnly_r2 (List.mem_of_getElem? (i := 9) rfl)
theorem mx_X3_passOnly_35 : Cond.instanceMethod yX3_hasCell ∈ wsX3_passOnly := mb_X3_passOnly_wsX3_passOnly_r2 (List.mem_of_getElem? (i := 10) rfl)
theorem mx_X3_passOnly_36 : Cond.selects RX3 yX3_hasCell yX3_hasCell ∈ wsX3_passOnly := mb_X3_passOnly_wsX3_passOnly_r2 (List.mem_of_getElem? (i := 11) rfl)
theorem mx_X3_passOnly_37 : Cond.code yX3_hasCell cX3_hasCell 2 (some .boolean) ∈ wsX3_passOnly := mb_X3_passOnly_wsX3_passOnly_r2 (List.mem_of_getElem? (i := 12) rfl)
theorem mx_X3_passOnly_38 : Cond.fieldLink RX3 27 "MillTalk$Level" "cells" "I" ∈ wsX3_passOnly := mb_X3_passOnly_wsX3_passOnly_r2 (List.mem_of_getElem? (i := 13) rfl)
theorem mx_X3_passOnly_39 : Cond.methodLink RX3 79 yX3_letLoose ∈ wsX3_passOnly := mb_X3_passOnly_wsX3_passOnly_r2 (List.mem_of_getElem? (i := 14) rfl)
theorem mx_X3_passOnly_40 : Cond.instanceMethod yX3_letLoose ∈ wsX3_passOnly := mb_X3_passOnly_wsX3_passOnly_r2 (List.mem_of_getElem? (i := 15) rfl)
theorem mx_X3_passOnly_41 : Cond.selects RX3 yX3_letLoose yX3_letLoose ∈ wsX3_passOnly := mb_X3_passOnly_wsX3_passOnly_r2 (List.mem_of_getElem? (i := 16) rfl)
theorem mx_X3_passOnly_42 : Cond.code yX3_letLoose cX3_letLoose 4 none ∈ wsX3_passOnly := mb_X3_passOnly_wsX3_passOnly_r2 (List.mem_of_getElem? (i := 17) rfl)
theorem mx_X3_passOnly_43 : Cond.methodLink RX3 83 yX3_grindsAt ∈ wsX3_passOnly := mb_X3_passOnly_wsX3_passOnly_r2 (List.mem_of_getElem? (i := 18) rfl)
theorem mx_X3_passOnly_44 : Cond.instanceMethod yX3_grindsAt ∈ wsX3_passOnly := mb_X3_passOnly_wsX3_passOnly_r2 (List.mem_of_getElem? (i := 19) rfl)
theorem mx_X3_passOnly_45 : Cond.selects RX3 yX3_grindsAt yX3_grindsAt ∈ wsX3_passOnly := mb_X3_passOnly_wsX3_passOnly_r2 (List.mem_of_getElem? (i := 20) rfl)
theorem mx_X3_passOnly_46 : Cond.code yX3_grindsAt cX3_grindsAt 4 (some .boolean) ∈ wsX3_passOnly := mb_X3_passOnly_wsX3_passOnly_r2 (List.mem_of_getElem? (i := 21) rfl)
theorem mx_X3_passOnly_47 : Cond.fieldLink RX3 37 "MillTalk$Level" "cap" "I" ∈ wsX3_passOnly := mb_X3_passOnly_wsX3_passOnly_r2 (List.mem_of_getElem? (i := 22) rfl)
theorem mx_X3_passOnly_48 : Cond.fieldLink RX3 31 "MillTalk$Level" "mill" "I" ∈ wsX3_passOnly := mb_X3_passOnly_wsX3_passOnly_r2 (List.mem_of_getElem? (i := 23) rfl)
theorem mb_X3_passOnly_wsX3_passOnly_r3 {w : Cond} (h : w ∈ wsX3_passOnly_r3) : w ∈ wsX3_passOnly := by unfold wsX3_passOnly; exact List.mem_cons_of_mem _ (List.mem_append_left _ (List.mem_append_right _ (List.mem_append_right _ (h))))
theorem mx_X3_passOnly_49 : Cond.fieldLink RX3 34 "MillTalk$Level" "reach" "I" ∈ wsX3_passOnly := mb_X3_passOnly_wsX3_passOnly_r3 (List.mem_of_getElem? (i := 0) rfl)
theorem mb_X3_passOnly_wsX30 {w : Cond} (h : w ∈ wsX30) : w ∈ wsX3_passOnly := by unfold wsX3_passOnly; exact List.mem_cons_of_mem _ (List.mem_append_right _ (h))
theorem ggX3_passOnly_X3_passSound : GoodIn wsX3_passOnly wsX3_passSound := goodIn_sub (by unfold wsX3_passSound; exact List.forall_mem_cons.mpr ⟨mx_X3_passOnly_12, List.forall_mem_append.mpr ⟨List.forall_mem_append.mpr ⟨(by unfold wsX3_passSound_r1; exact List.forall_mem_cons.mpr ⟨mx_X3_passOnly_13, List.forall_mem_cons.mpr ⟨mx_X3_passOnly_14, List.forall_mem_cons.mpr ⟨mx_X3_passOnly_15, List.forall_mem_cons.mpr ⟨mx_X3_passOnly_16, List.forall_mem_cons.mpr ⟨mx_X3_passOnly_17, List.forall_mem_cons.mpr ⟨mx_X3_passOnly_18, List.forall_mem_cons.mpr ⟨mx_X3_passOnly_19, List.forall_mem_cons.mpr ⟨mx_X3_passOnly_20, List.forall_mem_cons.mpr ⟨mx_X3_passOnly_21, List.forall_mem_cons.mpr ⟨mx_X3_passOnly_22, List.forall_mem_cons.mpr ⟨mx_X3_passOnly_5, List.forall_mem_cons.mpr ⟨mx_X3_passOnly_23, List.forall_mem_cons.mpr ⟨mx_X3_passOnly_24, List.forall_mem_cons.mpr ⟨mx_X3_passOnly_25, List.forall_mem_cons.mpr ⟨mx_X3_passOnly_26, List.forall_mem_cons.mpr ⟨mx_X3_passOnly_27, List.forall_mem_cons.mpr ⟨mx_X3_passOnly_28, List.forall_mem_cons.mpr ⟨mx_X3_passOnly_29, List.forall_mem_cons.mpr ⟨mx_X3_passOnly_30, List.forall_mem_cons.mpr ⟨mx_X3_passOnly_31, List.forall_mem_cons.mpr ⟨mx_X3_passOnly_32, List.forall_mem_cons.mpr ⟨mx_X3_passOnly_33, List.forall_mem_cons.mpr ⟨mx_X3_passOnly_34, List.forall_mem_cons.mpr ⟨mx_X3_passOnly_35, fun _ h_ => absurd h_ List.not_mem_nil⟩⟩⟩⟩⟩⟩⟩⟩⟩⟩⟩⟩⟩⟩⟩⟩⟩⟩⟩⟩⟩⟩⟩⟩), (by unfold wsX3_passSound_r2; exact List.forall_mem_cons.mpr ⟨mx_X3_passOnly_36, List.forall_mem_cons.mpr ⟨mx_X3_passOnly_37, List.forall_mem_cons.mpr ⟨mx_X3_passOnly_38, List.forall_mem_cons.mpr ⟨mx_X3_passOnly_39, List.forall_mem_cons.mpr ⟨mx_X3_passOnly_40, List.forall_mem_cons.mpr ⟨mx_X3_passOnly_41, List.forall_mem_cons.mpr ⟨mx_X3_passOnly_42, List.forall_mem_cons.mpr ⟨mx_X3_passOnly_43, List.forall_mem_cons.mpr ⟨mx_X3_passOnly_44, List.forall_mem_cons.mpr ⟨mx_X3_passOnly_45, List.forall_mem_cons.mpr ⟨mx_X3_passOnly_46, List.forall_mem_cons.mpr ⟨mx_X3_passOnly_47, List.forall_mem_cons.mpr ⟨mx_X3_passOnly_48, List.forall_mem_cons.mpr ⟨mx_X3_passOnly_49, fun _ h_ => absurd h_ List.not_mem_nil⟩⟩⟩⟩⟩⟩⟩⟩⟩⟩⟩⟩⟩⟩)⟩, (fun _ h_ => mb_X3_passOnly_wsX30 h_)⟩⟩) (by decide +kernel)
theorem mx_X3_passOnly_9 : Cond.methodLink RX3 90 yX3_passSound ∈ wsX3_passOnly := mb_X3_passOnly_wsX3_passOnly_r1 (List.mem_of_getElem? (i := 8) rfl)
theorem mx_X3_passOnly_10 : Cond.instanceMethod yX3_passSound ∈ wsX3_passOnly := mb_X3_passOnly_wsX3_passOnly_r1 (List.mem_of_getElem? (i := 9) rfl)
theorem mx_X3_passOnly_11 : Cond.selects RX3 yX3_passSound yX3_passSound ∈ wsX3_passOnly := mb_X3_passOnly_wsX3_passOnly_r1 (List.mem_of_getElem? (i := 10) rfl)
theorem gX3_passOnly_X3_passSound : GoodIn wsX3_passOnly (wsV RX3 90 RX3 yX3_passSound wsX3_passSound) := goodIn_app (goodIn_sub (List.forall_mem_cons.mpr ⟨mx_X3_passOnly_9, List.forall_mem_cons.mpr ⟨mx_X3_passOnly_10, List.forall_mem_cons.mpr ⟨mx_X3_passOnly_11, List.forall_mem_cons.mpr ⟨mx_X3_passOnly_5, fun _ h_ => absurd h_ List.not_mem_nil⟩⟩⟩⟩) (by decide +kernel)) ggX3_passOnly_X3_passSound
theorem mx_X3_passOnly_6 : Cond.code yX3_windOn cX3_windOn 2 (some .int) ∈ wsX3_passOnly := mb_X3_passOnly_wsX3_passOnly_r1 (List.mem_of_getElem? (i := 5) rfl)
theorem mx_X3_passOnly_7 : Cond.fieldLink RX3 46 "MillTalk$Level" "windCount" "I" ∈ wsX3_passOnly := mb_X3_passOnly_wsX3_passOnly_r1 (List.mem_of_getElem? (i := 6) rfl)
theorem mx_X3_passOnly_8 : Cond.fieldLink RX3 9 "MillTalk$Level" "winds" "[I" ∈ wsX3_passOnly := mb_X3_passOnly_wsX3_passOnly_r1 (List.mem_of_getElem? (i := 7) rfl)
theorem mx_X3_passOnly_1 : Cond.fieldLink RX3 40 "MillTalk$Level" "hour" "I" ∈ wsX3_passOnly := mb_X3_passOnly_wsX3_passOnly_r1 (List.mem_of_getElem? (i := 0) rfl)
theorem ggX3_passOnly_X3_windOn : GoodIn wsX3_passOnly wsX3_windOn := goodIn_sub (by unfold wsX3_windOn; exact List.forall_mem_cons.mpr ⟨mx_X3_passOnly_6, List.forall_mem_append.mpr ⟨List.forall_mem_cons.mpr ⟨mx_X3_passOnly_7, List.forall_mem_cons.mpr ⟨mx_X3_passOnly_8, List.forall_mem_cons.mpr ⟨mx_X3_passOnly_1, fun _ h_ => absurd h_ List.not_mem_nil⟩⟩⟩, (fun _ h_ => mb_X3_passOnly_wsX30 h_)⟩⟩) (by decide +kernel)
theorem mx_X3_passOnly_2 : Cond.methodLink RX3 87 yX3_windOn ∈ wsX3_passOnly := mb_X3_passOnly_wsX3_passOnly_r1 (List.mem_of_getElem? (i := 1) rfl)
theorem mx_X3_passOnly_3 : Cond.instanceMethod yX3_windOn ∈ wsX3_passOnly := mb_X3_passOnly_wsX3_passOnly_r1 (List.mem_of_getElem? (i := 2) rfl)
theorem mx_X3_passOnly_4 : Cond.selects RX3 yX3_windOn yX3_windOn ∈ wsX3_passOnly := mb_X3_passOnly_wsX3_passOnly_r1 (List.mem_of_getElem? (i := 3) rfl)
theorem gX3_passOnly_X3_windOn : GoodIn wsX3_passOnly (wsV RX3 87 RX3 yX3_windOn wsX3_windOn) := goodIn_app (goodIn_sub (List.forall_mem_cons.mpr ⟨mx_X3_passOnly_2, List.forall_mem_cons.mpr ⟨mx_X3_passOnly_3, List.forall_mem_cons.mpr ⟨mx_X3_passOnly_4, List.forall_mem_cons.mpr ⟨mx_X3_passOnly_5, fun _ h_ => absurd h_ List.not_mem_nil⟩⟩⟩⟩) (by decide +kernel)) ggX3_passOnly_X3_windOn
theorem mb_X3_passSound_wsX3_passSound_r1 {w : Cond} (h : w ∈ wsX3_passSound_r1) : w ∈ wsX3_passSound := by unfold wsX3_passSound; exact List.mem_cons_of_mem _ (List.mem_append_left _ (List.mem_append_left _ (h)))
theorem mx_X3_passSound_16 : Cond.code yX3_driftOf cX3_driftOf 4 (some .int) ∈ wsX3_passSound := mb_X3_passSound_wsX3_passSound_r1 (List.mem_of_getElem? (i := 15) rfl)
theorem mx_X3_passSound_17 : Cond.fieldLink RX3 15 "MillTalk$Level" "kinds" "[I" ∈ wsX3_passSound := mb_X3_passSound_wsX3_passSound_r1 (List.mem_of_getElem? (i := 16) rfl)
theorem mb_X3_passSound_wsX30 {w : Cond} (h : w ∈ wsX30) : w ∈ wsX3_passSound := by unfold wsX3_passSound; exact List.mem_cons_of_mem _ (List.mem_append_right _ (h))
theorem ggX3_passSound_X3_driftOf : GoodIn wsX3_passSound wsX3_driftOf := goodIn_sub (by unfold wsX3_driftOf; exact List.forall_mem_cons.mpr ⟨mx_X3_passSound_16, List.forall_mem_append.mpr ⟨List.forall_mem_cons.mpr ⟨mx_X3_passSound_17, fun _ h_ => absurd h_ List.not_mem_nil⟩, (fun _ h_ => mb_X3_passSound_wsX30 h_)⟩⟩) (by decide +kernel)
theorem mx_X3_passSound_13 : Cond.methodLink RX3 69 yX3_driftOf ∈ wsX3_passSound := mb_X3_passSound_wsX3_passSound_r1 (List.mem_of_getElem? (i := 12) rfl)
theorem mx_X3_passSound_14 : Cond.instanceMethod yX3_driftOf ∈ wsX3_passSound := mb_X3_passSound_wsX3_passSound_r1 (List.mem_of_getElem? (i := 13) rfl)
theorem mx_X3_passSound_15 : Cond.selects RX3 yX3_driftOf yX3_driftOf ∈ wsX3_passSound := mb_X3_passSound_wsX3_passSound_r1 (List.mem_of_getElem? (i := 14) rfl)
theorem mx_X3_passSound_11 : Cond.initialized RX3 ∈ wsX3_passSound := mb_X3_passSound_wsX3_passSound_r1 (List.mem_of_getElem? (i := 10) rfl)
theorem gX3_passSound_X3_driftOf : GoodIn wsX3_passSound (wsV RX3 69 RX3 yX3_driftOf wsX3_driftOf) := goodIn_app (goodIn_sub (List.forall_mem_cons.mpr ⟨mx_X3_passSound_13, List.forall_mem_cons.mpr ⟨mx_X3_passSound_14, List.forall_mem_cons.mpr ⟨mx_X3_passSound_15, List.forall_mem_cons.mpr ⟨mx_X3_passSound_11, fun _ h_ => absurd h_ List.not_mem_nil⟩⟩⟩⟩) (by decide +kernel)) ggX3_passSound_X3_driftOf
theorem mb_X3_passSound_wsX3_passSound_r2 {w : Cond} (h : w ∈ wsX3_passSound_r2) : w ∈ wsX3_passSound := by unfold wsX3_passSound; exact List.mem_cons_of_mem _ (List.mem_append_left _ (List.mem_append_right _ (h)))
theorem mx_X3_passSound_35 : Cond.code yX3_grindsAt cX3_grindsAt 4 (some .boolean) ∈ wsX3_passSound := mb_X3_passSound_wsX3_passSound_r2 (List.mem_of_getElem? (i := 10) rfl)
theorem mx_X3_passSound_36 : Cond.fieldLink RX3 37 "MillTalk$Level" "cap" "I" ∈ wsX3_passSound := mb_X3_passSound_wsX3_passSound_r2 (List.mem_of_getElem? (i := 11) rfl)
theorem mx_X3_passSound_37 : Cond.fieldLink RX3 31 "MillTalk$Level" "mill" "I" ∈ wsX3_passSound := mb_X3_passSound_wsX3_passSound_r2 (List.mem_of_getElem? (i := 12) rfl)
theorem mx_X3_passSound_38 : Cond.fieldLink RX3 34 "MillTalk$Level" "reach" "I" ∈ wsX3_passSound := mb_X3_passSound_wsX3_passSound_r2 (List.mem_of_getElem? (i := 13) rfl)
theorem ggX3_passSound_X3_grindsAt : GoodIn wsX3_passSound wsX3_grindsAt := goodIn_sub (by unfold wsX3_grindsAt; exact List.forall_mem_cons.mpr ⟨mx_X3_passSound_35, List.forall_mem_append.mpr ⟨List.forall_mem_cons.mpr ⟨mx_X3_passSound_36, List.forall_mem_cons.mpr ⟨mx_X3_passSound_37, List.forall_mem_cons.mpr ⟨mx_X3_passSound_38, fun _ h_ => absurd h_ List.not_mem_nil⟩⟩⟩, (fun _ h_ => mb_X3_passSound_wsX30 h_)⟩⟩) (by decide +kernel)
theorem mx_X3_passSound_32 : Cond.methodLink RX3 83 yX3_grindsAt ∈ wsX3_passSound := mb_X3_passSound_wsX3_passSound_r2 (List.mem_of_getElem? (i := 7) rfl)
theorem mx_X3_passSound_33 : Cond.instanceMethod yX3_grindsAt ∈ wsX3_passSound := mb_X3_passSound_wsX3_passSound_r2 (List.mem_of_getElem? (i := 8) rfl)
theorem mx_X3_passSound_34 : Cond.selects RX3 yX3_grindsAt yX3_grindsAt ∈ wsX3_passSound := mb_X3_passSound_wsX3_passSound_r2 (List.mem_of_getElem? (i := 9) rfl)
theorem gX3_passSound_X3_grindsAt : GoodIn wsX3_passSound (wsV RX3 83 RX3 yX3_grindsAt wsX3_grindsAt) := goodIn_app (goodIn_sub (List.forall_mem_cons.mpr ⟨mx_X3_passSound_32, List.forall_mem_cons.mpr ⟨mx_X3_passSound_33, List.forall_mem_cons.mpr ⟨mx_X3_passSound_34, List.forall_mem_cons.mpr ⟨mx_X3_passSound_11, fun _ h_ => absurd h_ List.not_mem_nil⟩⟩⟩⟩) (by decide +kernel)) ggX3_passSound_X3_grindsAt
theorem mx_X3_passSound_26 : Cond.code yX3_hasCell cX3_hasCell 2 (some .boolean) ∈ wsX3_passSound := mb_X3_passSound_wsX3_passSound_r2 (List.mem_of_getElem? (i := 1) rfl)
theorem mx_X3_passSound_27 : Cond.fieldLink RX3 27 "MillTalk$Level" "cells" "I" ∈ wsX3_passSound := mb_X3_passSound_wsX3_passSound_r2 (List.mem_of_getElem? (i := 2) rfl)
theorem ggX3_passSound_X3_hasCell : GoodIn wsX3_passSound wsX3_hasCell := goodIn_sub (by unfold wsX3_hasCell; exact List.forall_mem_cons.mpr ⟨mx_X3_passSound_26, List.forall_mem_append.mpr ⟨List.forall_mem_cons.mpr ⟨mx_X3_passSound_27, fun _ h_ => absurd h_ List.not_mem_nil⟩, (fun _ h_ => mb_X3_passSound_wsX30 h_)⟩⟩) (by decide +kernel)
theorem mx_X3_passSound_23 : Cond.methodLink RX3 76 yX3_hasCell ∈ wsX3_passSound := mb_X3_passSound_wsX3_passSound_r1 (List.mem_of_getElem? (i := 22) rfl)
theorem mx_X3_passSound_24 : Cond.instanceMethod yX3_hasCell ∈ wsX3_passSound := mb_X3_passSound_wsX3_passSound_r1 (List.mem_of_getElem? (i := 23) rfl)
theorem mx_X3_passSound_25 : Cond.selects RX3 yX3_hasCell yX3_hasCell ∈ wsX3_passSound := mb_X3_passSound_wsX3_passSound_r2 (List.mem_of_getElem? (i := 0) rfl)
theorem gX3_passSound_X3_hasCell : GoodIn wsX3_passSound (wsV RX3 76 RX3 yX3_hasCell wsX3_hasCell) := goodIn_app (goodIn_sub (List.forall_mem_cons.mpr ⟨mx_X3_passSound_23, List.forall_mem_cons.mpr ⟨mx_X3_passSound_24, List.forall_mem_cons.mpr ⟨mx_X3_passSound_25, List.forall_mem_cons.mpr ⟨mx_X3_passSound_11, fun _ h_ => absurd h_ List.not_mem_nil⟩⟩⟩⟩) (by decide +kernel)) ggX3_passSound_X3_hasCell
theorem mx_X3_passSound_12 : Cond.code yX3_isLoose cX3_isLoose 2 (some .boolean) ∈ wsX3_passSound := mb_X3_passSound_wsX3_passSound_r1 (List.mem_of_getElem? (i := 11) rfl)
theorem mx_X3_passSound_2 : Cond.fieldLink RX3 24 "MillTalk$Level" "hows" "[I" ∈ wsX3_passSound := mb_X3_passSound_wsX3_passSound_r1 (List.mem_of_getElem? (i := 1) rfl)
theorem ggX3_passSound_X3_isLoose : GoodIn wsX3_passSound wsX3_isLoose := goodIn_sub (by unfold wsX3_isLoose; exact List.forall_mem_cons.mpr ⟨mx_X3_passSound_12, List.forall_mem_append.mpr ⟨List.forall_mem_cons.mpr ⟨mx_X3_passSound_2, fun _ h_ => absurd h_ List.not_mem_nil⟩, (fun _ h_ => mb_X3_passSound_wsX30 h_)⟩⟩) (by decide +kernel)
theorem mx_X3_passSound_8 : Cond.methodLink RX3 58 yX3_isLoose ∈ wsX3_passSound := mb_X3_passSound_wsX3_passSound_r1 (List.mem_of_getElem? (i := 7) rfl)
theorem mx_X3_passSound_9 : Cond.instanceMethod yX3_isLoose ∈ wsX3_passSound := mb_X3_passSound_wsX3_passSound_r1 (List.mem_of_getElem? (i := 8) rfl)
theorem mx_X3_passSound_10 : Cond.selects RX3 yX3_isLoose yX3_isLoose ∈ wsX3_passSound := mb_X3_passSound_wsX3_passSound_r1 (List.mem_of_getElem? (i := 9) rfl)
theorem gX3_passSound_X3_isLoose : GoodIn wsX3_passSound (wsV RX3 58 RX3 yX3_isLoose wsX3_isLoose) := goodIn_app (goodIn_sub (List.forall_mem_cons.mpr ⟨mx_X3_passSound_8, List.forall_mem_cons.mpr ⟨mx_X3_passSound_9, List.forall_mem_cons.mpr ⟨mx_X3_passSound_10, List.forall_mem_cons.mpr ⟨mx_X3_passSound_11, fun _ h_ => absurd h_ List.not_mem_nil⟩⟩⟩⟩) (by decide +kernel)) ggX3_passSound_X3_isLoose
theorem mx_X3_passSound_31 : Cond.code yX3_letLoose cX3_letLoose 4 none ∈ wsX3_passSound := mb_X3_passSound_wsX3_passSound_r2 (List.mem_of_getElem? (i := 6) rfl)
theorem mx_X3_passSound_1 : Cond.fieldLink RX3 18 "MillTalk$Level" "places" "[I" ∈ wsX3_passSound := mb_X3_passSound_wsX3_passSound_r1 (List.mem_of_getElem? (i := 0) rfl)
theorem mx_X3_passSound_22 : Cond.fieldLink RX3 21 "MillTalk$Level" "louds" "[I" ∈ wsX3_passSound := mb_X3_passSound_wsX3_passSound_r1 (List.mem_of_getElem? (i := 21) rfl)
theorem ggX3_passSound_X3_letLoose : GoodIn wsX3_passSound wsX3_letLoose := goodIn_sub (by unfold wsX3_letLoose; exact List.forall_mem_cons.mpr ⟨mx_X3_passSound_31, List.forall_mem_append.mpr ⟨List.forall_mem_cons.mpr ⟨mx_X3_passSound_1, List.forall_mem_cons.mpr ⟨mx_X3_passSound_22, List.forall_mem_cons.mpr ⟨mx_X3_passSound_2, fun _ h_ => absurd h_ List.not_mem_nil⟩⟩⟩, (fun _ h_ => mb_X3_passSound_wsX30 h_)⟩⟩) (by decide +kernel)
theorem mx_X3_passSound_28 : Cond.methodLink RX3 79 yX3_letLoose ∈ wsX3_passSound := mb_X3_passSound_wsX3_passSound_r2 (List.mem_of_getElem? (i := 3) rfl)
theorem mx_X3_passSound_29 : Cond.instanceMethod yX3_letLoose ∈ wsX3_passSound := mb_X3_passSound_wsX3_passSound_r2 (List.mem_of_getElem? (i := 4) rfl)
theorem mx_X3_passSound_30 : Cond.selects RX3 yX3_letLoose yX3_letLoose ∈ wsX3_passSound := mb_X3_passSound_wsX3_passSound_r2 (List.mem_of_getElem? (i := 5) rfl)
theorem gX3_passSound_X3_letLoose : GoodIn wsX3_passSound (wsV RX3 79 RX3 yX3_letLoose wsX3_letLoose) := goodIn_app (goodIn_sub (List.forall_mem_cons.mpr ⟨mx_X3_passSound_28, List.forall_mem_cons.mpr ⟨mx_X3_passSound_29, List.forall_mem_cons.mpr ⟨mx_X3_passSound_30, List.forall_mem_cons.mpr ⟨mx_X3_passSound_11, fun _ h_ => absurd h_ List.not_mem_nil⟩⟩⟩⟩) (by decide +kernel)) ggX3_passSound_X3_letLoose
theorem mx_X3_passSound_21 : Cond.code yX3_loudBehindHour cX3_loudBehindHour 2 (some .int) ∈ wsX3_passSound := mb_X3_passSound_wsX3_passSound_r1 (List.mem_of_getElem? (i := 20) rfl)
theorem mx_X3_passSound_4 : Cond.methodLink RX3 63 Lib.Math.min.name ∈ wsX3_passSound := mb_X3_passSound_wsX3_passSound_r1 (List.mem_of_getElem? (i := 3) rfl)
theorem mx_X3_passSound_5 : Cond.static Lib.Math.min.name ∈ wsX3_passSound := mb_X3_passSound_wsX3_passSound_r1 (List.mem_of_getElem? (i := 4) rfl)
theorem mx_X3_passSound_6 : Cond.initialized "java/lang/Math" ∈ wsX3_passSound := mb_X3_passSound_wsX3_passSound_r1 (List.mem_of_getElem? (i := 5) rfl)
theorem mx_X3_passSound_7 : Cond.code Lib.Math.min.name Lib.Math.min.code 2 (some .int) ∈ wsX3_passSound := mb_X3_passSound_wsX3_passSound_r1 (List.mem_of_getElem? (i := 6) rfl)
theorem ggX3_passSound_X3_loudBehindHour : GoodIn wsX3_passSound wsX3_loudBehindHour := goodIn_sub (by unfold wsX3_loudBehindHour; exact List.forall_mem_cons.mpr ⟨mx_X3_passSound_21, List.forall_mem_append.mpr ⟨List.forall_mem_cons.mpr ⟨mx_X3_passSound_17, List.forall_mem_cons.mpr ⟨mx_X3_passSound_22, List.forall_mem_cons.mpr ⟨mx_X3_passSound_4, List.forall_mem_cons.mpr ⟨mx_X3_passSound_5, List.forall_mem_cons.mpr ⟨mx_X3_passSound_6, List.forall_mem_cons.mpr ⟨mx_X3_passSound_7, fun _ h_ => absurd h_ List.not_mem_nil⟩⟩⟩⟩⟩⟩, (fun _ h_ => mb_X3_passSound_wsX30 h_)⟩⟩) (by decide +kernel)
theorem mx_X3_passSound_18 : Cond.methodLink RX3 72 yX3_loudBehindHour ∈ wsX3_passSound := mb_X3_passSound_wsX3_passSound_r1 (List.mem_of_getElem? (i := 17) rfl)
theorem mx_X3_passSound_19 : Cond.instanceMethod yX3_loudBehindHour ∈ wsX3_passSound := mb_X3_passSound_wsX3_passSound_r1 (List.mem_of_getElem? (i := 18) rfl)
theorem mx_X3_passSound_20 : Cond.selects RX3 yX3_loudBehindHour yX3_loudBehindHour ∈ wsX3_passSound := mb_X3_passSound_wsX3_passSound_r1 (List.mem_of_getElem? (i := 19) rfl)
theorem gX3_passSound_X3_loudBehindHour : GoodIn wsX3_passSound (wsV RX3 72 RX3 yX3_loudBehindHour wsX3_loudBehindHour) := goodIn_app (goodIn_sub (List.forall_mem_cons.mpr ⟨mx_X3_passSound_18, List.forall_mem_cons.mpr ⟨mx_X3_passSound_19, List.forall_mem_cons.mpr ⟨mx_X3_passSound_20, List.forall_mem_cons.mpr ⟨mx_X3_passSound_11, fun _ h_ => absurd h_ List.not_mem_nil⟩⟩⟩⟩) (by decide +kernel)) ggX3_passSound_X3_loudBehindHour
theorem mb_X3_pass_wsX3_pass_r1 {w : Cond} (h : w ∈ wsX3_pass_r1) : w ∈ wsX3_pass := by unfold wsX3_pass; exact List.mem_cons_of_mem _ (List.mem_append_left _ (List.mem_append_left _ (h)))
theorem mx_X3_pass_13 : Cond.code yX3_passSound cX3_passSound 5 none ∈ wsX3_pass := mb_X3_pass_wsX3_pass_r1 (List.mem_of_getElem? (i := 12) rfl)
theorem mx_X3_pass_14 : Cond.fieldLink RX3 18 "MillTalk$Level" "places" "[I" ∈ wsX3_pass := mb_X3_pass_wsX3_pass_r1 (List.mem_of_getElem? (i := 13) rfl)
theorem mx_X3_pass_15 : Cond.fieldLink RX3 24 "MillTalk$Level" "hows" "[I" ∈ wsX3_pass := mb_X3_pass_wsX3_pass_r1 (List.mem_of_getElem? (i := 14) rfl)
theorem mx_X3_pass_16 : Cond.fieldLink RX3 43 "MillTalk$Level" "meal" "I" ∈ wsX3_pass := mb_X3_pass_wsX3_pass_r1 (List.mem_of_getElem? (i := 15) rfl)
theorem mx_X3_pass_17 : Cond.methodLink RX3 63 Lib.Math.min.name ∈ wsX3_pass := mb_X3_pass_wsX3_pass_r1 (List.mem_of_getElem? (i := 16) rfl)
theorem mx_X3_pass_18 : Cond.static Lib.Math.min.name ∈ wsX3_pass := mb_X3_pass_wsX3_pass_r1 (List.mem_of_getElem? (i := 17) rfl)
theorem mx_X3_pass_19 : Cond.initialized "java/lang/Math" ∈ wsX3_pass := mb_X3_pass_wsX3_pass_r1 (List.mem_of_getElem? (i := 18) rfl)
theorem mx_X3_pass_20 : Cond.code Lib.Math.min.name Lib.Math.min.code 2 (some .int) ∈ wsX3_pass := mb_X3_pass_wsX3_pass_r1 (List.mem_of_getElem? (i := 19) rfl)
theorem mx_X3_pass_21 : Cond.methodLink RX3 58 yX3_isLoose ∈ wsX3_pass := mb_X3_pass_wsX3_pass_r1 (List.mem_of_getElem? (i := 20) rfl)
theorem mx_X3_pass_22 : Cond.instanceMethod yX3_isLoose ∈ wsX3_pass := mb_X3_pass_wsX3_pass_r1 (List.mem_of_getElem? (i := 21) rfl)
theorem mx_X3_pass_23 : Cond.selects RX3 yX3_isLoose yX3_isLoose ∈ wsX3_pass := mb_X3_pass_wsX3_pass_r1 (List.mem_of_getElem? (i := 22) rfl)
theorem mx_X3_pass_6 : Cond.initialized RX3 ∈ wsX3_pass := mb_X3_pass_wsX3_pass_r1 (List.mem_of_getElem? (i := 5) rfl)
theorem mx_X3_pass_24 : Cond.code yX3_isLoose cX3_isLoose 2 (some .boolean) ∈ wsX3_pass := mb_X3_pass_wsX3_pass_r1 (List.mem_of_getElem? (i := 23) rfl)
theorem mb_X3_pass_wsX3_pass_r2 {w : Cond} (h : w ∈ wsX3_pass_r2) : w ∈ wsX3_pass := by unfold wsX3_pass; exact List.mem_cons_of_mem _ (List.mem_append_left _ (List.mem_append_right _ (List.mem_append_left _ (h))))
theorem mx_X3_pass_25 : Cond.methodLink RX3 69 yX3_driftOf ∈ wsX3_pass := mb_X3_pass_wsX3_pass_r2 (List.mem_of_getElem? (i := 0) rfl)
theorem mx_X3_pass_26 : Cond.instanceMethod yX3_driftOf ∈ wsX3_pass := mb_X3_pass_wsX3_pass_r2 (List.mem_of_getElem? (i := 1) rfl)
theorem mx_X3_pass_27 : Cond.selects RX3 yX3_driftOf yX3_driftOf ∈ wsX3_pass := mb_X3_pass_wsX3_pass_r2 (List.mem_of_getElem? (i := 2) rfl)
theorem mx_X3_pass_28 : Cond.code yX3_driftOf cX3_driftOf 4 (some .int) ∈ wsX3_pass := mb_X3_pass_wsX3_pass_r2 (List.mem_of_getElem? (i := 3) rfl)
theorem mx_X3_pass_29 : Cond.fieldLink RX3 15 "MillTalk$Level" "kinds" "[I" ∈ wsX3_pass := mb_X3_pass_wsX3_pass_r2 (List.mem_of_getElem? (i := 4) rfl)
theorem mx_X3_pass_30 : Cond.methodLink RX3 72 yX3_loudBehindHour ∈ wsX3_pass := mb_X3_pass_wsX3_pass_r2 (List.mem_of_getElem? (i := 5) rfl)
theorem mx_X3_pass_31 : Cond.instanceMethod yX3_loudBehindHour ∈ wsX3_pass := mb_X3_pass_wsX3_pass_r2 (List.mem_of_getElem? (i := 6) rfl)
theorem mx_X3_pass_32 : Cond.selects RX3 yX3_loudBehindHour yX3_loudBehindHour ∈ wsX3_pass := mb_X3_pass_wsX3_pass_r2 (List.mem_of_getElem? (i := 7) rfl)
theorem mx_X3_pass_33 : Cond.code yX3_loudBehindHour cX3_loudBehindHour 2 (some .int) ∈ wsX3_pass := mb_X3_pass_wsX3_pass_r2 (List.mem_of_getElem? (i := 8) rfl)
theorem mx_X3_pass_34 : Cond.fieldLink RX3 21 "MillTalk$Level" "louds" "[I" ∈ wsX3_pass := mb_X3_pass_wsX3_pass_r2 (List.mem_of_getElem? (i := 9) rfl)
theorem mx_X3_pass_35 : Cond.methodLink RX3 76 yX3_hasCell ∈ wsX3_pass := mb_X3_pass_wsX3_pass_r2 (List.mem_of_getElem? (i := 10) rfl)
theorem mx_X3_pass_36 : Cond.instanceMethod yX3_hasCell ∈ wsX3_pass := mb_X3_pass_wsX3_pass_r2 (List.mem_of_getElem? (i := 11) rfl)
theorem mx_X3_pass_37 : Cond.selects RX3 yX3_hasCell yX3_hasCell ∈ wsX3_pass := mb_X3_pass_wsX3_pass_r2 (List.mem_of_getElem? (i := 12) rfl)
theorem mx_X3_pass_38 : Cond.code yX3_hasCell cX3_hasCell 2 (some .boolean) ∈ wsX3_pass := mb_X3_pass_wsX3_pass_r2 (List.mem_of_getElem? (i := 13) rfl)
theorem mx_X3_pass_39 : Cond.fieldLink RX3 27 "MillTalk$Level" "cells" "I" ∈ wsX3_pass := mb_X3_pass_wsX3_pass_r2 (List.mem_of_getElem? (i := 14) rfl)
theorem mx_X3_pass_40 : Cond.methodLink RX3 79 yX3_letLoose ∈ wsX3_pass := mb_X3_pass_wsX3_pass_r2 (List.mem_of_getElem? (i := 15) rfl)
theorem mx_X3_pass_41 : Cond.instanceMethod yX3_letLoose ∈ wsX3_pass := mb_X3_pass_wsX3_pass_r2 (List.mem_of_getElem? (i := 16) rfl)
theorem mx_X3_pass_42 : Cond.selects RX3 yX3_letLoose yX3_letLoose ∈ wsX3_pass := mb_X3_pass_wsX3_pass_r2 (List.mem_of_getElem? (i := 17) rfl)
theorem mx_X3_pass_43 : Cond.code yX3_letLoose cX3_letLoose 4 none ∈ wsX3_pass := mb_X3_pass_wsX3_pass_r2 (List.mem_of_getElem? (i := 18) rfl)
theorem mx_X3_pass_44 : Cond.methodLink RX3 83 yX3_grindsAt ∈ wsX3_pass := mb_X3_pass_wsX3_pass_r2 (List.mem_of_getElem? (i := 19) rfl)
theorem mx_X3_pass_45 : Cond.instanceMethod yX3_grindsAt ∈ wsX3_pass := mb_X3_pass_wsX3_pass_r2 (List.mem_of_getElem? (i := 20) rfl)
theorem mx_X3_pass_46 : Cond.selects RX3 yX3_grindsAt yX3_grindsAt ∈ wsX3_pass := mb_X3_pass_wsX3_pass_r2 (List.mem_of_getElem? (i := 21) rfl)
theorem mx_X3_pass_47 : Cond.code yX3_grindsAt cX3_grindsAt 4 (some .boolean) ∈ wsX3_pass := mb_X3_pass_wsX3_pass_r2 (List.mem_of_getElem? (i := 22) rfl)
theorem mx_X3_pass_48 : Cond.fieldLink RX3 37 "MillTalk$Level" "cap" "I" ∈ wsX3_pass := mb_X3_pass_wsX3_pass_r2 (List.mem_of_getElem? (i := 23) rfl)
theorem mb_X3_pass_wsX3_pass_r3 {w : Cond} (h : w ∈ wsX3_pass_r3) : w ∈ wsX3_pass := by unfold wsX3_pass; exact List.mem_cons_of_mem _ (List.mem_append_left _ (List.mem_append_right _ (List.mem_append_right _ (h))))
theorem mx_X3_pass_49 : Cond.fieldLink RX3 31 "MillTalk$Level" "mill" "I" ∈ wsX3_pass := mb_X3_pass_wsX3_pass_r3 (List.mem_of_getElem? (i := 0) rfl)
theorem mx_X3_pass_50 : Cond.fieldLink RX3 34 "MillTalk$Level" "reach" "I" ∈ wsX3_pass := mb_X3_pass_wsX3_pass_r3 (List.mem_of_getElem? (i := 1) rfl)
theorem mb_X3_pass_wsX30 {w : Cond} (h : w ∈ wsX30) : w ∈ wsX3_pass := by unfold wsX3_pass; exact List.mem_cons_of_mem _ (List.mem_append_right _ (h))
theorem ggX3_pass_X3_passSound : GoodIn wsX3_pass wsX3_passSound := goodIn_sub (by unfold wsX3_passSound; exact List.forall_mem_cons.mpr ⟨mx_X3_pass_13, List.forall_mem_append.mpr ⟨List.forall_mem_append.mpr ⟨(by unfold wsX3_passSound_r1; exact List.forall_mem_cons.mpr ⟨mx_X3_pass_14, List.forall_mem_cons.mpr ⟨mx_X3_pass_15, List.forall_mem_cons.mpr ⟨mx_X3_pass_16, List.forall_mem_cons.mpr ⟨mx_X3_pass_17, List.forall_mem_cons.mpr ⟨mx_X3_pass_18, List.forall_mem_cons.mpr ⟨mx_X3_pass_19, List.forall_mem_cons.mpr ⟨mx_X3_pass_20, List.forall_mem_cons.mpr ⟨mx_X3_pass_21, List.forall_mem_cons.mpr ⟨mx_X3_pass_22, List.forall_mem_cons.mpr ⟨mx_X3_pass_23, List.forall_mem_cons.mpr ⟨mx_X3_pass_6, List.forall_mem_cons.mpr ⟨mx_X3_pass_24, List.forall_mem_cons.mpr ⟨mx_X3_pass_25, List.forall_mem_cons.mpr ⟨mx_X3_pass_26, List.forall_mem_cons.mpr ⟨mx_X3_pass_27, List.forall_mem_cons.mpr ⟨mx_X3_pass_28, List.forall_mem_cons.mpr ⟨mx_X3_pass_29, List.forall_mem_cons.mpr ⟨mx_X3_pass_30, List.forall_mem_cons.mpr ⟨mx_X3_pass_31, List.forall_mem_cons.mpr ⟨mx_X3_pass_32, List.forall_mem_cons.mpr ⟨mx_X3_pass_33, List.forall_mem_cons.mpr ⟨mx_X3_pass_34, List.forall_mem_cons.mpr ⟨mx_X3_pass_35, List.forall_mem_cons.mpr ⟨mx_X3_pass_36, fun _ h_ => absurd h_ List.not_mem_nil⟩⟩⟩⟩⟩⟩⟩⟩⟩⟩⟩⟩⟩⟩⟩⟩⟩⟩⟩⟩⟩⟩⟩⟩), (by unfold wsX3_passSound_r2; exact List.forall_mem_cons.mpr ⟨mx_X3_pass_37, List.forall_mem_cons.mpr ⟨mx_X3_pass_38, List.forall_mem_cons.mpr ⟨mx_X3_pass_39, List.forall_mem_cons.mpr ⟨mx_X3_pass_40, List.forall_mem_cons.mpr ⟨mx_X3_pass_41, List.forall_mem_cons.mpr ⟨mx_X3_pass_42, List.forall_mem_cons.mpr ⟨mx_X3_pass_43, List.forall_mem_cons.mpr ⟨mx_X3_pass_44, List.forall_mem_cons.mpr ⟨mx_X3_pass_45, List.forall_mem_cons.mpr ⟨mx_X3_pass_46, List.forall_mem_cons.mpr ⟨mx_X3_pass_47, List.forall_mem_cons.mpr ⟨mx_X3_pass_48, List.forall_mem_cons.mpr ⟨mx_X3_pass_49, List.forall_mem_cons.mpr ⟨mx_X3_pass_50, fun _ h_ => absurd h_ List.not_mem_nil⟩⟩⟩⟩⟩⟩⟩⟩⟩⟩⟩⟩⟩⟩)⟩, (fun _ h_ => mb_X3_pass_wsX30 h_)⟩⟩) (by decide +kernel)
theorem mx_X3_pass_10 : Cond.methodLink RX3 90 yX3_passSound ∈ wsX3_pass := mb_X3_pass_wsX3_pass_r1 (List.mem_of_getElem? (i := 9) rfl)
theorem mx_X3_pass_11 : Cond.instanceMethod yX3_passSound ∈ wsX3_pass := mb_X3_pass_wsX3_pass_r1 (List.mem_of_getElem? (i := 10) rfl)
theorem mx_X3_pass_12 : Cond.selects RX3 yX3_passSound yX3_passSound ∈ wsX3_pass := mb_X3_pass_wsX3_pass_r1 (List.mem_of_getElem? (i := 11) rfl)
theorem gX3_pass_X3_passSound : GoodIn wsX3_pass (wsV RX3 90 RX3 yX3_passSound wsX3_passSound) := goodIn_app (goodIn_sub (List.forall_mem_cons.mpr ⟨mx_X3_pass_10, List.forall_mem_cons.mpr ⟨mx_X3_pass_11, List.forall_mem_cons.mpr ⟨mx_X3_pass_12, List.forall_mem_cons.mpr ⟨mx_X3_pass_6, fun _ h_ => absurd h_ List.not_mem_nil⟩⟩⟩⟩) (by decide +kernel)) ggX3_pass_X3_passSound
theorem mx_X3_pass_7 : Cond.code yX3_windOn cX3_windOn 2 (some .int) ∈ wsX3_pass := mb_X3_pass_wsX3_pass_r1 (List.mem_of_getElem? (i := 6) rfl)
theorem mx_X3_pass_8 : Cond.fieldLink RX3 46 "MillTalk$Level" "windCount" "I" ∈ wsX3_pass := mb_X3_pass_wsX3_pass_r1 (List.mem_of_getElem? (i := 7) rfl)
theorem mx_X3_pass_9 : Cond.fieldLink RX3 9 "MillTalk$Level" "winds" "[I" ∈ wsX3_pass := mb_X3_pass_wsX3_pass_r1 (List.mem_of_getElem? (i := 8) rfl)
theorem mx_X3_pass_2 : Cond.fieldLink RX3 40 "MillTalk$Level" "hour" "I" ∈ wsX3_pass := mb_X3_pass_wsX3_pass_r1 (List.mem_of_getElem? (i := 1) rfl)
theorem ggX3_pass_X3_windOn : GoodIn wsX3_pass wsX3_windOn := goodIn_sub (by unfold wsX3_windOn; exact List.forall_mem_cons.mpr ⟨mx_X3_pass_7, List.forall_mem_append.mpr ⟨List.forall_mem_cons.mpr ⟨mx_X3_pass_8, List.forall_mem_cons.mpr ⟨mx_X3_pass_9, List.forall_mem_cons.mpr ⟨mx_X3_pass_2, fun _ h_ => absurd h_ List.not_mem_nil⟩⟩⟩, (fun _ h_ => mb_X3_pass_wsX30 h_)⟩⟩) (by decide +kernel)
theorem mx_X3_pass_3 : Cond.methodLink RX3 87 yX3_windOn ∈ wsX3_pass := mb_X3_pass_wsX3_pass_r1 (List.mem_of_getElem? (i := 2) rfl)
theorem mx_X3_pass_4 : Cond.instanceMethod yX3_windOn ∈ wsX3_pass := mb_X3_pass_wsX3_pass_r1 (List.mem_of_getElem? (i := 3) rfl)
theorem mx_X3_pass_5 : Cond.selects RX3 yX3_windOn yX3_windOn ∈ wsX3_pass := mb_X3_pass_wsX3_pass_r1 (List.mem_of_getElem? (i := 4) rfl)
theorem gX3_pass_X3_windOn : GoodIn wsX3_pass (wsV RX3 87 RX3 yX3_windOn wsX3_windOn) := goodIn_app (goodIn_sub (List.forall_mem_cons.mpr ⟨mx_X3_pass_3, List.forall_mem_cons.mpr ⟨mx_X3_pass_4, List.forall_mem_cons.mpr ⟨mx_X3_pass_5, List.forall_mem_cons.mpr ⟨mx_X3_pass_6, fun _ h_ => absurd h_ List.not_mem_nil⟩⟩⟩⟩) (by decide +kernel)) ggX3_pass_X3_windOn
theorem mx_X3_tellOf_9 : Cond.code yX3_isLoose cX3_isLoose 2 (some .boolean) ∈ wsX3_tellOf := by unfold wsX3_tellOf; exact List.mem_cons_of_mem _ (List.mem_append_left _ (List.mem_of_getElem? (i := 8) rfl))
theorem mx_X3_tellOf_3 : Cond.fieldLink RX3 24 "MillTalk$Level" "hows" "[I" ∈ wsX3_tellOf := by unfold wsX3_tellOf; exact List.mem_cons_of_mem _ (List.mem_append_left _ (List.mem_of_getElem? (i := 2) rfl))
theorem mb_X3_tellOf_wsX30 {w : Cond} (h : w ∈ wsX30) : w ∈ wsX3_tellOf := by unfold wsX3_tellOf; exact List.mem_cons_of_mem _ (List.mem_append_right _ (h))
theorem ggX3_tellOf_X3_isLoose : GoodIn wsX3_tellOf wsX3_isLoose := goodIn_sub (by unfold wsX3_isLoose; exact List.forall_mem_cons.mpr ⟨mx_X3_tellOf_9, List.forall_mem_append.mpr ⟨List.forall_mem_cons.mpr ⟨mx_X3_tellOf_3, fun _ h_ => absurd h_ List.not_mem_nil⟩, (fun _ h_ => mb_X3_tellOf_wsX30 h_)⟩⟩) (by decide +kernel)
theorem mx_X3_tellOf_5 : Cond.methodLink RX3 58 yX3_isLoose ∈ wsX3_tellOf := by unfold wsX3_tellOf; exact List.mem_cons_of_mem _ (List.mem_append_left _ (List.mem_of_getElem? (i := 4) rfl))
theorem mx_X3_tellOf_6 : Cond.instanceMethod yX3_isLoose ∈ wsX3_tellOf := by unfold wsX3_tellOf; exact List.mem_cons_of_mem _ (List.mem_append_left _ (List.mem_of_getElem? (i := 5) rfl))
theorem mx_X3_tellOf_7 : Cond.selects RX3 yX3_isLoose yX3_isLoose ∈ wsX3_tellOf := by unfold wsX3_tellOf; exact List.mem_cons_of_mem _ (List.mem_append_left _ (List.mem_of_getElem? (i := 6) rfl))
theorem mx_X3_tellOf_8 : Cond.initialized RX3 ∈ wsX3_tellOf := by unfold wsX3_tellOf; exact List.mem_cons_of_mem _ (List.mem_append_left _ (List.mem_of_getElem? (i := 7) rfl))
theorem gX3_tellOf_X3_isLoose : GoodIn wsX3_tellOf (wsV RX3 58 RX3 yX3_isLoose wsX3_isLoose) := goodIn_app (goodIn_sub (List.forall_mem_cons.mpr ⟨mx_X3_tellOf_5, List.forall_mem_cons.mpr ⟨mx_X3_tellOf_6, List.forall_mem_cons.mpr ⟨mx_X3_tellOf_7, List.forall_mem_cons.mpr ⟨mx_X3_tellOf_8, fun _ h_ => absurd h_ List.not_mem_nil⟩⟩⟩⟩) (by decide +kernel)) ggX3_tellOf_X3_isLoose
theorem mb_X3_becomeLike_wsX30 {w : Cond} (h : w ∈ wsX30) : w ∈ wsX3_becomeLike := by unfold wsX3_becomeLike; exact List.mem_cons_of_mem _ (List.mem_append_right _ (h))
theorem i_X3_becomeLike_X3 : ∀ w ∈ u_ws RX3 TX3 13, w ∈ wsX3_becomeLike := fun _ h_ => mb_X3_becomeLike_wsX30 h_
theorem mb_X3_begin_wsX30 {w : Cond} (h : w ∈ wsX30) : w ∈ wsX3_begin := by unfold wsX3_begin; exact List.mem_cons_of_mem _ (List.mem_append_right _ (h))
theorem i_X3_begin_X3 : ∀ w ∈ u_ws RX3 TX3 13, w ∈ wsX3_begin := fun _ h_ => mb_X3_begin_wsX30 h_
theorem mb_X3_driftOf_wsX30 {w : Cond} (h : w ∈ wsX30) : w ∈ wsX3_driftOf := by unfold wsX3_driftOf; exact List.mem_cons_of_mem _ (List.mem_append_right _ (h))
theorem i_X3_driftOf_X3 : ∀ w ∈ u_ws RX3 TX3 13, w ∈ wsX3_driftOf := fun _ h_ => mb_X3_driftOf_wsX30 h_
theorem mb_X3_grindsAt_wsX30 {w : Cond} (h : w ∈ wsX30) : w ∈ wsX3_grindsAt := by unfold wsX3_grindsAt; exact List.mem_cons_of_mem _ (List.mem_append_right _ (h))
theorem i_X3_grindsAt_X3 : ∀ w ∈ u_ws RX3 TX3 13, w ∈ wsX3_grindsAt := fun _ h_ => mb_X3_grindsAt_wsX30 h_
theorem mb_X3_hasCell_wsX30 {w : Cond} (h : w ∈ wsX30) : w ∈ wsX3_hasCell := by unfold wsX3_hasCell; exact List.mem_cons_of_mem _ (List.mem_append_right _ (h))
theorem i_X3_hasCell_X3 : ∀ w ∈ u_ws RX3 TX3 13, w ∈ wsX3_hasCell := fun _ h_ => mb_X3_hasCell_wsX30 h_
theorem mb_X3_hasSound_wsX30 {w : Cond} (h : w ∈ wsX30) : w ∈ wsX3_hasSound := by unfold wsX3_hasSound; exact List.mem_cons_of_mem _ (List.mem_append_right _ (h))
theorem i_X3_hasSound_X3 : ∀ w ∈ u_ws RX3 TX3 13, w ∈ wsX3_hasSound := fun _ h_ => mb_X3_hasSound_wsX30 h_
theorem mb_X3_hasWind_wsX30 {w : Cond} (h : w ∈ wsX30) : w ∈ wsX3_hasWind := by unfold wsX3_hasWind; exact List.mem_cons_of_mem _ (List.mem_append_right _ (h))
theorem i_X3_hasWind_X3 : ∀ w ∈ u_ws RX3 TX3 13, w ∈ wsX3_hasWind := fun _ h_ => mb_X3_hasWind_wsX30 h_
theorem mb_X3_isLoose_wsX30 {w : Cond} (h : w ∈ wsX30) : w ∈ wsX3_isLoose := by unfold wsX3_isLoose; exact List.mem_cons_of_mem _ (List.mem_append_right _ (h))
theorem i_X3_isLoose_X3 : ∀ w ∈ u_ws RX3 TX3 13, w ∈ wsX3_isLoose := fun _ h_ => mb_X3_isLoose_wsX30 h_
theorem mb_X3_isTold_wsX30 {w : Cond} (h : w ∈ wsX30) : w ∈ wsX3_isTold := by unfold wsX3_isTold; exact List.mem_cons_of_mem _ (List.mem_append_right _ (h))
theorem i_X3_isTold_X3 : ∀ w ∈ u_ws RX3 TX3 13, w ∈ wsX3_isTold := fun _ h_ => mb_X3_isTold_wsX30 h_
theorem mb_X3_letLoose_wsX30 {w : Cond} (h : w ∈ wsX30) : w ∈ wsX3_letLoose := by unfold wsX3_letLoose; exact List.mem_cons_of_mem _ (List.mem_append_right _ (h))
theorem i_X3_letLoose_X3 : ∀ w ∈ u_ws RX3 TX3 13, w ∈ wsX3_letLoose := fun _ h_ => mb_X3_letLoose_wsX30 h_
theorem mb_X3_loudBehindHour_wsX30 {w : Cond} (h : w ∈ wsX30) : w ∈ wsX3_loudBehindHour := by unfold wsX3_loudBehindHour; exact List.mem_cons_of_mem _ (List.mem_append_right _ (h))
theorem i_X3_loudBehindHour_X3 : ∀ w ∈ u_ws RX3 TX3 13, w ∈ wsX3_loudBehindHour := fun _ h_ => mb_X3_loudBehindHour_wsX30 h_
theorem mb_X3_loudOf_wsX30 {w : Cond} (h : w ∈ wsX30) : w ∈ wsX3_loudOf := by unfold wsX3_loudOf; exact List.mem_cons_of_mem _ (List.mem_append_right _ (h))
theorem i_X3_loudOf_X3 : ∀ w ∈ u_ws RX3 TX3 13, w ∈ wsX3_loudOf := fun _ h_ => mb_X3_loudOf_wsX30 h_
theorem i_X3_mealBehind_X3 : ∀ w ∈ u_ws RX3 TX3 13, w ∈ wsX3_mealBehind := fun _ h_ => mb_X3_mealBehind_wsX30 h_
theorem i_X3_pass_X3 : ∀ w ∈ u_ws RX3 TX3 13, w ∈ wsX3_pass := fun _ h_ => mb_X3_pass_wsX30 h_
theorem i_X3_passOnly_X3 : ∀ w ∈ u_ws RX3 TX3 13, w ∈ wsX3_passOnly := fun _ h_ => mb_X3_passOnly_wsX30 h_
theorem i_X3_passSound_X3 : ∀ w ∈ u_ws RX3 TX3 13, w ∈ wsX3_passSound := fun _ h_ => mb_X3_passSound_wsX30 h_
theorem mb_X3_soundsThatAre_wsX30 {w : Cond} (h : w ∈ wsX30) : w ∈ wsX3_soundsThatAre := by unfold wsX3_soundsThatAre; exact List.mem_cons_of_mem _ (List.mem_append_right _ (h))
theorem i_X3_soundsThatAre_X3 : ∀ w ∈ u_ws RX3 TX3 13, w ∈ wsX3_soundsThatAre := fun _ h_ => mb_X3_soundsThatAre_wsX30 h_
theorem i_X3_tellOf_X3 : ∀ w ∈ u_ws RX3 TX3 13, w ∈ wsX3_tellOf := fun _ h_ => mb_X3_tellOf_wsX30 h_
theorem mb_X3_turnCap_wsX30 {w : Cond} (h : w ∈ wsX30) : w ∈ wsX3_turnCap := by unfold wsX3_turnCap; exact List.mem_cons_of_mem _ (List.mem_append_right _ (h))
theorem i_X3_turnCap_X3 : ∀ w ∈ u_ws RX3 TX3 13, w ∈ wsX3_turnCap := fun _ h_ => mb_X3_turnCap_wsX30 h_
theorem mb_X3_turnWind_wsX30 {w : Cond} (h : w ∈ wsX30) : w ∈ wsX3_turnWind := by unfold wsX3_turnWind; exact List.mem_cons_of_mem _ (List.mem_append_right _ (h))
theorem i_X3_turnWind_X3 : ∀ w ∈ u_ws RX3 TX3 13, w ∈ wsX3_turnWind := fun _ h_ => mb_X3_turnWind_wsX30 h_
theorem mb_X3_windOn_wsX30 {w : Cond} (h : w ∈ wsX30) : w ∈ wsX3_windOn := by unfold wsX3_windOn; exact List.mem_cons_of_mem _ (List.mem_append_right _ (h))
theorem i_X3_windOn_X3 : ∀ w ∈ u_ws RX3 TX3 13, w ∈ wsX3_windOn := fun _ h_ => mb_X3_windOn_wsX30 h_
theorem mx_X3_isTold_1 : Cond.fieldLink RX3 27 "MillTalk$Level" "cells" "I" ∈ wsX3_isTold := by unfold wsX3_isTold; exact List.mem_cons_of_mem _ (List.mem_append_left _ (List.mem_of_getElem? (i := 0) rfl))
theorem mx_X3_hasCell_1 : Cond.fieldLink RX3 27 "MillTalk$Level" "cells" "I" ∈ wsX3_hasCell := by unfold wsX3_hasCell; exact List.mem_cons_of_mem _ (List.mem_append_left _ (List.mem_of_getElem? (i := 0) rfl))
theorem mx_X3_hasSound_1 : Cond.fieldLink RX3 49 "MillTalk$Level" "soundCount" "I" ∈ wsX3_hasSound := by unfold wsX3_hasSound; exact List.mem_cons_of_mem _ (List.mem_append_left _ (List.mem_of_getElem? (i := 0) rfl))
theorem mx_X3_hasWind_1 : Cond.fieldLink RX3 46 "MillTalk$Level" "windCount" "I" ∈ wsX3_hasWind := by unfold wsX3_hasWind; exact List.mem_cons_of_mem _ (List.mem_append_left _ (List.mem_of_getElem? (i := 0) rfl))
theorem mx_X3_isLoose_1 : Cond.fieldLink RX3 24 "MillTalk$Level" "hows" "[I" ∈ wsX3_isLoose := by unfold wsX3_isLoose; exact List.mem_cons_of_mem _ (List.mem_append_left _ (List.mem_of_getElem? (i := 0) rfl))
theorem mx_X3_soundsThatAre_1 : Cond.fieldLink RX3 49 "MillTalk$Level" "soundCount" "I" ∈ wsX3_soundsThatAre := by unfold wsX3_soundsThatAre; exact List.mem_cons_of_mem _ (List.mem_append_left _ (List.mem_of_getElem? (i := 0) rfl))
theorem mx_X3_soundsThatAre_2 : Cond.fieldLink RX3 24 "MillTalk$Level" "hows" "[I" ∈ wsX3_soundsThatAre := by unfold wsX3_soundsThatAre; exact List.mem_cons_of_mem _ (List.mem_append_left _ (List.mem_of_getElem? (i := 1) rfl))
theorem mx_X3_loudOf_1 : Cond.fieldLink RX3 49 "MillTalk$Level" "soundCount" "I" ∈ wsX3_loudOf := by unfold wsX3_loudOf; exact List.mem_cons_of_mem _ (List.mem_append_left _ (List.mem_of_getElem? (i := 0) rfl))
theorem mx_X3_loudOf_2 : Cond.fieldLink RX3 21 "MillTalk$Level" "louds" "[I" ∈ wsX3_loudOf := by unfold wsX3_loudOf; exact List.mem_cons_of_mem _ (List.mem_append_left _ (List.mem_of_getElem? (i := 1) rfl))
theorem mx_X3_tellOf_4 : Cond.fieldLink RX3 21 "MillTalk$Level" "louds" "[I" ∈ wsX3_tellOf := by unfold wsX3_tellOf; exact List.mem_cons_of_mem _ (List.mem_append_left _ (List.mem_of_getElem? (i := 3) rfl))
theorem mx_X3_tellOf_2 : Cond.constant RX3 62 (-1000000) ∈ wsX3_tellOf := by unfold wsX3_tellOf; exact List.mem_cons_of_mem _ (List.mem_append_left _ (List.mem_of_getElem? (i := 1) rfl))
theorem mx_X3_tellOf_1 : Cond.fieldLink RX3 18 "MillTalk$Level" "places" "[I" ∈ wsX3_tellOf := by unfold wsX3_tellOf; exact List.mem_cons_of_mem _ (List.mem_append_left _ (List.mem_of_getElem? (i := 0) rfl))
theorem mx_X3_windOn_1 : Cond.fieldLink RX3 46 "MillTalk$Level" "windCount" "I" ∈ wsX3_windOn := by unfold wsX3_windOn; exact List.mem_cons_of_mem _ (List.mem_append_left _ (List.mem_of_getElem? (i := 0) rfl))
theorem mx_X3_windOn_2 : Cond.fieldLink RX3 9 "MillTalk$Level" "winds" "[I" ∈ wsX3_windOn := by unfold wsX3_windOn; exact List.mem_cons_of_mem _ (List.mem_append_left _ (List.mem_of_getElem? (i := 1) rfl))
theorem mx_X3_windOn_3 : Cond.fieldLink RX3 40 "MillTalk$Level" "hour" "I" ∈ wsX3_windOn := by unfold wsX3_windOn; exact List.mem_cons_of_mem _ (List.mem_append_left _ (List.mem_of_getElem? (i := 2) rfl))
theorem mx_X3_driftOf_1 : Cond.fieldLink RX3 15 "MillTalk$Level" "kinds" "[I" ∈ wsX3_driftOf := by unfold wsX3_driftOf; exact List.mem_cons_of_mem _ (List.mem_append_left _ (List.mem_of_getElem? (i := 0) rfl))
theorem mx_X3_loudBehindHour_1 : Cond.fieldLink RX3 15 "MillTalk$Level" "kinds" "[I" ∈ wsX3_loudBehindHour := by unfold wsX3_loudBehindHour; exact List.mem_cons_of_mem _ (List.mem_append_left _ (List.mem_of_getElem? (i := 0) rfl))
theorem mx_X3_loudBehindHour_2 : Cond.fieldLink RX3 21 "MillTalk$Level" "louds" "[I" ∈ wsX3_loudBehindHour := by unfold wsX3_loudBehindHour; exact List.mem_cons_of_mem _ (List.mem_append_left _ (List.mem_of_getElem? (i := 1) rfl))
theorem mx_X3_loudBehindHour_3 : Cond.methodLink RX3 63 Lib.Math.min.name ∈ wsX3_loudBehindHour := by unfold wsX3_loudBehindHour; exact List.mem_cons_of_mem _ (List.mem_append_left _ (List.mem_of_getElem? (i := 2) rfl))
theorem mx_X3_loudBehindHour_4 : Cond.static Lib.Math.min.name ∈ wsX3_loudBehindHour := by unfold wsX3_loudBehindHour; exact List.mem_cons_of_mem _ (List.mem_append_left _ (List.mem_of_getElem? (i := 3) rfl))
theorem mx_X3_loudBehindHour_5 : Cond.initialized "java/lang/Math" ∈ wsX3_loudBehindHour := by unfold wsX3_loudBehindHour; exact List.mem_cons_of_mem _ (List.mem_append_left _ (List.mem_of_getElem? (i := 4) rfl))
theorem mx_X3_loudBehindHour_6 : Cond.code Lib.Math.min.name Lib.Math.min.code 2 (some .int) ∈ wsX3_loudBehindHour := by unfold wsX3_loudBehindHour; exact List.mem_cons_of_mem _ (List.mem_append_left _ (List.mem_of_getElem? (i := 5) rfl))
theorem mx_X3_grindsAt_1 : Cond.fieldLink RX3 37 "MillTalk$Level" "cap" "I" ∈ wsX3_grindsAt := by unfold wsX3_grindsAt; exact List.mem_cons_of_mem _ (List.mem_append_left _ (List.mem_of_getElem? (i := 0) rfl))
theorem mx_X3_grindsAt_2 : Cond.fieldLink RX3 31 "MillTalk$Level" "mill" "I" ∈ wsX3_grindsAt := by unfold wsX3_grindsAt; exact List.mem_cons_of_mem _ (List.mem_append_left _ (List.mem_of_getElem? (i := 1) rfl))
theorem mx_X3_grindsAt_3 : Cond.fieldLink RX3 34 "MillTalk$Level" "reach" "I" ∈ wsX3_grindsAt := by unfold wsX3_grindsAt; exact List.mem_cons_of_mem _ (List.mem_append_left _ (List.mem_of_getElem? (i := 2) rfl))
theorem mx_X3_turnCap_1 : Cond.fieldLink RX3 37 "MillTalk$Level" "cap" "I" ∈ wsX3_turnCap := by unfold wsX3_turnCap; exact List.mem_cons_of_mem _ (List.mem_append_left _ (List.mem_of_getElem? (i := 0) rfl))
theorem mx_X3_turnWind_1 : Cond.fieldLink RX3 46 "MillTalk$Level" "windCount" "I" ∈ wsX3_turnWind := by unfold wsX3_turnWind; exact List.mem_cons_of_mem _ (List.mem_append_left _ (List.mem_of_getElem? (i := 0) rfl))
theorem mx_X3_turnWind_2 : Cond.fieldLink RX3 40 "MillTalk$Level" "hour" "I" ∈ wsX3_turnWind := by unfold wsX3_turnWind; exact List.mem_cons_of_mem _ (List.mem_append_left _ (List.mem_of_getElem? (i := 1) rfl))
theorem mx_X3_turnWind_3 : Cond.fieldLink RX3 9 "MillTalk$Level" "winds" "[I" ∈ wsX3_turnWind := by unfold wsX3_turnWind; exact List.mem_cons_of_mem _ (List.mem_append_left _ (List.mem_of_getElem? (i := 2) rfl))
theorem mx_X3_letLoose_1 : Cond.fieldLink RX3 18 "MillTalk$Level" "places" "[I" ∈ wsX3_letLoose := by unfold wsX3_letLoose; exact List.mem_cons_of_mem _ (List.mem_append_left _ (List.mem_of_getElem? (i := 0) rfl))
theorem mx_X3_letLoose_2 : Cond.fieldLink RX3 21 "MillTalk$Level" "louds" "[I" ∈ wsX3_letLoose := by unfold wsX3_letLoose; exact List.mem_cons_of_mem _ (List.mem_append_left _ (List.mem_of_getElem? (i := 1) rfl))
theorem mx_X3_letLoose_3 : Cond.fieldLink RX3 24 "MillTalk$Level" "hows" "[I" ∈ wsX3_letLoose := by unfold wsX3_letLoose; exact List.mem_cons_of_mem _ (List.mem_append_left _ (List.mem_of_getElem? (i := 2) rfl))
theorem mx_X3_passSound_3 : Cond.fieldLink RX3 43 "MillTalk$Level" "meal" "I" ∈ wsX3_passSound := mb_X3_passSound_wsX3_passSound_r1 (List.mem_of_getElem? (i := 2) rfl)
theorem mx_X3_pass_1 : Cond.fieldLink RX3 49 "MillTalk$Level" "soundCount" "I" ∈ wsX3_pass := mb_X3_pass_wsX3_pass_r1 (List.mem_of_getElem? (i := 0) rfl)
theorem mx_X3_begin_1 : Cond.fieldLink RX3 27 "MillTalk$Level" "cells" "I" ∈ wsX3_begin := by unfold wsX3_begin; exact List.mem_cons_of_mem _ (List.mem_append_left _ (List.mem_of_getElem? (i := 0) rfl))
theorem mx_X3_begin_2 : Cond.fieldLink RX3 31 "MillTalk$Level" "mill" "I" ∈ wsX3_begin := by unfold wsX3_begin; exact List.mem_cons_of_mem _ (List.mem_append_left _ (List.mem_of_getElem? (i := 1) rfl))
theorem mx_X3_begin_3 : Cond.fieldLink RX3 34 "MillTalk$Level" "reach" "I" ∈ wsX3_begin := by unfold wsX3_begin; exact List.mem_cons_of_mem _ (List.mem_append_left _ (List.mem_of_getElem? (i := 2) rfl))
theorem mx_X3_begin_4 : Cond.fieldLink RX3 37 "MillTalk$Level" "cap" "I" ∈ wsX3_begin := by unfold wsX3_begin; exact List.mem_cons_of_mem _ (List.mem_append_left _ (List.mem_of_getElem? (i := 3) rfl))
theorem mx_X3_begin_5 : Cond.fieldLink RX3 40 "MillTalk$Level" "hour" "I" ∈ wsX3_begin := by unfold wsX3_begin; exact List.mem_cons_of_mem _ (List.mem_append_left _ (List.mem_of_getElem? (i := 4) rfl))
theorem mx_X3_begin_6 : Cond.fieldLink RX3 43 "MillTalk$Level" "meal" "I" ∈ wsX3_begin := by unfold wsX3_begin; exact List.mem_cons_of_mem _ (List.mem_append_left _ (List.mem_of_getElem? (i := 5) rfl))
theorem mx_X3_begin_7 : Cond.fieldLink RX3 46 "MillTalk$Level" "windCount" "I" ∈ wsX3_begin := by unfold wsX3_begin; exact List.mem_cons_of_mem _ (List.mem_append_left _ (List.mem_of_getElem? (i := 6) rfl))
theorem mx_X3_begin_8 : Cond.fieldLink RX3 49 "MillTalk$Level" "soundCount" "I" ∈ wsX3_begin := by unfold wsX3_begin; exact List.mem_cons_of_mem _ (List.mem_append_left _ (List.mem_of_getElem? (i := 7) rfl))
theorem mx_X3_becomeLike_1 : Cond.fieldLink RX3 27 "MillTalk$Level" "cells" "I" ∈ wsX3_becomeLike := by unfold wsX3_becomeLike; exact List.mem_cons_of_mem _ (List.mem_append_left _ (List.mem_of_getElem? (i := 0) rfl))
theorem mx_X3_becomeLike_2 : Cond.fieldLink RX3 31 "MillTalk$Level" "mill" "I" ∈ wsX3_becomeLike := by unfold wsX3_becomeLike; exact List.mem_cons_of_mem _ (List.mem_append_left _ (List.mem_of_getElem? (i := 1) rfl))
theorem mx_X3_becomeLike_3 : Cond.fieldLink RX3 34 "MillTalk$Level" "reach" "I" ∈ wsX3_becomeLike := by unfold wsX3_becomeLike; exact List.mem_cons_of_mem _ (List.mem_append_left _ (List.mem_of_getElem? (i := 2) rfl))
theorem mx_X3_becomeLike_4 : Cond.fieldLink RX3 37 "MillTalk$Level" "cap" "I" ∈ wsX3_becomeLike := by unfold wsX3_becomeLike; exact List.mem_cons_of_mem _ (List.mem_append_left _ (List.mem_of_getElem? (i := 3) rfl))
theorem mx_X3_becomeLike_5 : Cond.fieldLink RX3 40 "MillTalk$Level" "hour" "I" ∈ wsX3_becomeLike := by unfold wsX3_becomeLike; exact List.mem_cons_of_mem _ (List.mem_append_left _ (List.mem_of_getElem? (i := 4) rfl))
theorem mx_X3_becomeLike_6 : Cond.fieldLink RX3 43 "MillTalk$Level" "meal" "I" ∈ wsX3_becomeLike := by unfold wsX3_becomeLike; exact List.mem_cons_of_mem _ (List.mem_append_left _ (List.mem_of_getElem? (i := 5) rfl))
theorem mx_X3_becomeLike_7 : Cond.fieldLink RX3 46 "MillTalk$Level" "windCount" "I" ∈ wsX3_becomeLike := by unfold wsX3_becomeLike; exact List.mem_cons_of_mem _ (List.mem_append_left _ (List.mem_of_getElem? (i := 6) rfl))
theorem mx_X3_becomeLike_8 : Cond.fieldLink RX3 49 "MillTalk$Level" "soundCount" "I" ∈ wsX3_becomeLike := by unfold wsX3_becomeLike; exact List.mem_cons_of_mem _ (List.mem_append_left _ (List.mem_of_getElem? (i := 7) rfl))
theorem mx_X3_becomeLike_9 : Cond.fieldLink RX3 9 "MillTalk$Level" "winds" "[I" ∈ wsX3_becomeLike := by unfold wsX3_becomeLike; exact List.mem_cons_of_mem _ (List.mem_append_left _ (List.mem_of_getElem? (i := 8) rfl))
theorem mx_X3_becomeLike_10 : Cond.methodLink RX3 52 arraycopyName ∈ wsX3_becomeLike := by unfold wsX3_becomeLike; exact List.mem_cons_of_mem _ (List.mem_append_left _ (List.mem_of_getElem? (i := 9) rfl))
theorem mx_X3_becomeLike_11 : Cond.native arraycopyName ∈ wsX3_becomeLike := by unfold wsX3_becomeLike; exact List.mem_cons_of_mem _ (List.mem_append_left _ (List.mem_of_getElem? (i := 10) rfl))
theorem mx_X3_becomeLike_12 : Cond.static arraycopyName ∈ wsX3_becomeLike := by unfold wsX3_becomeLike; exact List.mem_cons_of_mem _ (List.mem_append_left _ (List.mem_of_getElem? (i := 11) rfl))
theorem mx_X3_becomeLike_13 : Cond.initialized "java/lang/System" ∈ wsX3_becomeLike := by unfold wsX3_becomeLike; exact List.mem_cons_of_mem _ (List.mem_append_left _ (List.mem_of_getElem? (i := 12) rfl))
theorem mx_X3_becomeLike_14 : Cond.fieldLink RX3 15 "MillTalk$Level" "kinds" "[I" ∈ wsX3_becomeLike := by unfold wsX3_becomeLike; exact List.mem_cons_of_mem _ (List.mem_append_left _ (List.mem_of_getElem? (i := 13) rfl))
theorem mx_X3_becomeLike_15 : Cond.fieldLink RX3 18 "MillTalk$Level" "places" "[I" ∈ wsX3_becomeLike := by unfold wsX3_becomeLike; exact List.mem_cons_of_mem _ (List.mem_append_left _ (List.mem_of_getElem? (i := 14) rfl))
theorem mx_X3_becomeLike_16 : Cond.fieldLink RX3 21 "MillTalk$Level" "louds" "[I" ∈ wsX3_becomeLike := by unfold wsX3_becomeLike; exact List.mem_cons_of_mem _ (List.mem_append_left _ (List.mem_of_getElem? (i := 15) rfl))
theorem mx_X3_becomeLike_17 : Cond.fieldLink RX3 24 "MillTalk$Level" "hows" "[I" ∈ wsX3_becomeLike := by unfold wsX3_becomeLike; exact List.mem_cons_of_mem _ (List.mem_append_left _ (List.mem_of_getElem? (i := 16) rfl))
-- 11.level
theorem lf_X3_isTold_1 {v0 : Int32} {hh : Nat} {ww : Nat} {kk : Nat} (hhb : hh < 2000000000) (hww : ww ≤ 6) (hkk : kk ≤ 6) (c_1 : v0 ≤ 0) : ¬ 0 < v0 := by
  grind
theorem lf_X3_isTold_2 {v0 : Int32} {hh : Nat} {ww : Nat} {kk : Nat} (hhb : hh < 2000000000) (hww : ww ≤ 6) (hkk : kk ≤ 6) (c_1 : ¬ (v0 ≤ 0)) : 0 < v0 := by
  grind
set_option maxHeartbeats 4000000 in
set_option maxRecDepth 100000 in
theorem r_X3_isTold (l : Launch) (dC : Nat → ClassId) (dI : Nat → Nat → Nat) (cI cZ cL cJ : ClassId) (h : Nat) (v0 : Int32) (v1 : Int32) (v2 : Int32) (v3 : Int32) (v5 : Int32) (hh : Nat) (ww : Nat) (kk : Nat) (b1 : Nat) (b2 : Nat) (b3 : Nat) (b4 : Nat) (b5 : Nat) (g1 : Nat → Int32) (g2 : Nat → Int32) (g3 : Nat → Int32) (g4 : Nat → Int32) (g5 : Nat → Int32) (hhb : hh < 2000000000) (hww : ww ≤ 6) (hkk : kk ≤ 6) : Met l yX3_isTold wsX3_isTold ({ frames := 0, cells := 0, slots := 0, locals := 0 }) (va_Pc [.ref h] (fun U => va_P (dC, dI) vwCl [(xo_3_iiiiiiiirrrrr h v0 v1 v2 v3 (nI hh) v5 (nI ww) (nI kk) b1 b2 b3 b4 b5), (xI b1 cI 6 g1), (xI b2 cI 6 g2), (xI b3 cI 6 g3), (xI b4 cI 6 g4), (xI b5 cI 6 g5)] U.heap ∧ va_K (dC, dI) vwCl [(cI, .int), (cZ, .boolean), (cL, .object RX3), (cJ, .array .int)] U)) (vp_Si (fun r => (r = 0 ∧ ¬ 0 < v0) ∨ (r = 1 ∧ 0 < v0))) 0 0 (fun _ => False) := by
  refine Met.ofW (cc := cX3_isTold) (maxL := 1) (ret := (some .boolean)) (by decide) rfl ?_
  intro p e s m args below meth c s₁ B hml hv
  obtain ⟨rfl, hP, hK⟩ := hv
  have hx := B.exec
  have hb := B.bytes
  have hr := B.returns
  have hts := atoms_spec (ws := wsX3_isTold) B.pre
  have hown : s.vm.findClass RX3 = some m.cls := findClass_of_methodNamed B.named
  have hlocks := B.notSynchronized
  have hP : va_P (dC, dI) vwCl [(xo_3_iiiiiiiirrrrr h v0 v1 v2 v3 (nI hh) v5 (nI ww) (nI kk) b1 b2 b3 b4 b5), (xI b1 cI 6 g1), (xI b2 cI 6 g2), (xI b3 cI 6 g3), (xI b4 cI 6 g4), (xI b5 cI 6 g5)] s.heap := hP
  have hl := lv_entry ([.ref h]) (n := 1) (Nat.le_of_ble_eq_true rfl)
  rw [lg_entry_eq]
  generalize (lg_sl ([.ref h]) ++ List.replicate (1 - (lg_sl ([.ref h])).length) Slot.unset).toArray = ls at hl ⊢
  have hl : lv_has ls 1 [(0, .ref h)] := hl
  refine lv_aload_n hx hb dX3_isTold_0 rfl (lv_at hl 0 rfl) ?_
  refine va_get (D := (dC, dI)) (ci := 3) (v := .int v0) (C := RX3) (T := TX3) (N := 13) hx hb hts i_X3_isTold_X3 hown hK hP 0 rfl rfl 0 (by decide) (hts _ mx_X3_isTold_1) (fun _ h9 => h9) rfl dX3_isTold_1 ?_
  refine lv_if_le (tgt := 11) hx hb dX3_isTold_4 (by decide) (fun c_1 => ?_) (fun c_1 => ?_)
  · skip
    refine lv_iconst (v := 0) hx hb dX3_isTold_11 (by decide) ?_
    exact W.zret (v := 0) hx hb hr (by decide) (fun t ht hW => ⟨0, rfl, Or.inl (⟨rfl, (lf_X3_isTold_1 hhb hww hkk c_1)⟩), ht⟩) (fun _ h => by cases h) dX3_isTold_12
  · skip
    refine lv_iconst (v := 1) hx hb dX3_isTold_7 (by decide) ?_
    refine lv_goto (tgt := 12) hx hb dX3_isTold_8 (by decide) ?_
    exact W.zret (v := 1) hx hb hr (by decide) (fun t ht hW => ⟨1, rfl, Or.inr (⟨rfl, (lf_X3_isTold_2 hhb hww hkk c_1)⟩), ht⟩) (fun _ h => by cases h) dX3_isTold_12
theorem lf_X3_hasCell_1 {v0 : Int32} {hh : Nat} {ww : Nat} {kk : Nat} {n : Int32} (hhb : hh < 2000000000) (hww : ww ≤ 6) (hkk : kk ≤ 6) (c_1 : n < 0) : (n < 0 ∨ v0 ≤ n) := by
  grind
theorem lf_X3_hasCell_2 {v0 : Int32} {hh : Nat} {ww : Nat} {kk : Nat} {n : Int32} (hhb : hh < 2000000000) (hww : ww ≤ 6) (hkk : kk ≤ 6) (c_1 : ¬ (n < 0)) (c_2 : v0 ≤ n) : (n < 0 ∨ v0 ≤ n) := by
  grind
theorem lf_X3_hasCell_3 {v0 : Int32} {hh : Nat} {ww : Nat} {kk : Nat} {n : Int32} (hhb : hh < 2000000000) (hww : ww ≤ 6) (hkk : kk ≤ 6) (c_1 : ¬ (n < 0)) (c_2 : ¬ (v0 ≤ n)) : ¬ n < 0 := by
  grind
theorem lf_X3_hasCell_4 {v0 : Int32} {hh : Nat} {ww : Nat} {kk : Nat} {n : Int32} (hhb : hh < 2000000000) (hww : ww ≤ 6) (hkk : kk ≤ 6) (c_1 : ¬ (n < 0)) (c_2 : ¬ (v0 ≤ n)) : ¬ v0 ≤ n := by
  grind
set_option maxHeartbeats 4000000 in
set_option maxRecDepth 100000 in
theorem r_X3_hasCell (l : Launch) (dC : Nat → ClassId) (dI : Nat → Nat → Nat) (cI cZ cL cJ : ClassId) (h : Nat) (v0 : Int32) (v1 : Int32) (v2 : Int32) (v3 : Int32) (v5 : Int32) (hh : Nat) (ww : Nat) (kk : Nat) (b1 : Nat) (b2 : Nat) (b3 : Nat) (b4 : Nat) (b5 : Nat) (g1 : Nat → Int32) (g2 : Nat → Int32) (g3 : Nat → Int32) (g4 : Nat → Int32) (g5 : Nat → Int32) (n : Int32) (hhb : hh < 2000000000) (hww : ww ≤ 6) (hkk : kk ≤ 6) : Met l yX3_hasCell wsX3_hasCell ({ frames := 0, cells := 0, slots := 0, locals := 0 }) (va_Pc [.ref h, .int n] (fun U => va_P (dC, dI) vwCl [(xo_3_iiiiiiiirrrrr h v0 v1 v2 v3 (nI hh) v5 (nI ww) (nI kk) b1 b2 b3 b4 b5), (xI b1 cI 6 g1), (xI b2 cI 6 g2), (xI b3 cI 6 g3), (xI b4 cI 6 g4), (xI b5 cI 6 g5)] U.heap ∧ va_K (dC, dI) vwCl [(cI, .int), (cZ, .boolean), (cL, .object RX3), (cJ, .array .int)] U)) (vp_Si (fun r => (r = 0 ∧ (n < 0 ∨ v0 ≤ n)) ∨ (r = 1 ∧ ¬ n < 0 ∧ ¬ v0 ≤ n))) 0 0 (fun _ => False) := by
  refine Met.ofW (cc := cX3_hasCell) (maxL := 2) (ret := (some .boolean)) (by decide) rfl ?_
  intro p e s m args below meth c s₁ B hml hv
  obtain ⟨rfl, hP, hK⟩ := hv
  have hx := B.exec
  have hb := B.bytes
  have hr := B.returns
  have hts := atoms_spec (ws := wsX3_hasCell) B.pre
  have hown : s.vm.findClass RX3 = some m.cls := findClass_of_methodNamed B.named
  have hlocks := B.notSynchronized
  have hP : va_P (dC, dI) vwCl [(xo_3_iiiiiiiirrrrr h v0 v1 v2 v3 (nI hh) v5 (nI ww) (nI kk) b1 b2 b3 b4 b5), (xI b1 cI 6 g1), (xI b2 cI 6 g2), (xI b3 cI 6 g3), (xI b4 cI 6 g4), (xI b5 cI 6 g5)] s.heap := hP
  have hl := lv_entry ([.ref h, .int n]) (n := 2) (Nat.le_of_ble_eq_true rfl)
  rw [lg_entry_eq]
  generalize (lg_sl ([.ref h, .int n]) ++ List.replicate (2 - (lg_sl ([.ref h, .int n])).length) Slot.unset).toArray = ls at hl ⊢
  have hl : lv_has ls 2 [(0, .ref h), (1, .int n)] := hl
  refine lv_iload_n hx hb dX3_hasCell_0 rfl (lv_at hl 1 rfl) ?_
  refine lv_if_lt (tgt := 16) hx hb dX3_hasCell_1 (by decide) (fun c_1 => ?_) (fun c_1 => ?_)
  · skip
    refine lv_iconst (v := 0) hx hb dX3_hasCell_16 (by decide) ?_
    exact W.zret (v := 0) hx hb hr (by decide) (fun t ht hW => ⟨0, rfl, Or.inl (⟨rfl, (lf_X3_hasCell_1 hhb hww hkk c_1)⟩), ht⟩) (fun _ h => by cases h) dX3_hasCell_17
  · skip
    refine lv_iload_n hx hb dX3_hasCell_4 rfl (lv_at hl 1 rfl) ?_
    refine lv_aload_n hx hb dX3_hasCell_5 rfl (lv_at hl 0 rfl) ?_
    refine va_get (D := (dC, dI)) (ci := 3) (v := .int v0) (C := RX3) (T := TX3) (N := 13) hx hb hts i_X3_hasCell_X3 hown hK hP 0 rfl rfl 0 (by decide) (hts _ mx_X3_hasCell_1) (fun _ h9 => h9) rfl dX3_hasCell_6 ?_
    refine lv_icmp_ge (tgt := 16) hx hb dX3_hasCell_9 (by decide) (fun c_2 => ?_) (fun c_2 => ?_)
    · skip
      refine lv_iconst (v := 0) hx hb dX3_hasCell_16 (by decide) ?_
      exact W.zret (v := 0) hx hb hr (by decide) (fun t ht hW => ⟨0, rfl, Or.inl (⟨rfl, (lf_X3_hasCell_2 hhb hww hkk c_1 c_2)⟩), ht⟩) (fun _ h => by cases h) dX3_hasCell_17
    · skip
      refine lv_iconst (v := 1) hx hb dX3_hasCell_12 (by decide) ?_
      refine lv_goto (tgt := 17) hx hb dX3_hasCell_13 (by decide) ?_
      exact W.zret (v := 1) hx hb hr (by decide) (fun t ht hW => ⟨1, rfl, Or.inr (⟨rfl, (lf_X3_hasCell_3 hhb hww hkk c_1 c_2), (lf_X3_hasCell_4 hhb hww hkk c_1 c_2)⟩), ht⟩) (fun _ h => by cases h) dX3_hasCell_17
theorem lf_X3_hasSound_1 {hh : Nat} {ww : Nat} {kk : Nat} {n : Int32} (hhb : hh < 2000000000) (hww : ww ≤ 6) (hkk : kk ≤ 6) (c_1 : n < 0) : (n < 0 ∨ (nI kk) ≤ n) := by
  grind
theorem lf_X3_hasSound_2 {hh : Nat} {ww : Nat} {kk : Nat} {n : Int32} (hhb : hh < 2000000000) (hww : ww ≤ 6) (hkk : kk ≤ 6) (c_1 : ¬ (n < 0)) (c_2 : (nI kk) ≤ n) : (n < 0 ∨ (nI kk) ≤ n) := by
  grind
set_option maxHeartbeats 4000000 in
set_option maxRecDepth 100000 in
theorem r_X3_hasSound (l : Launch) (dC : Nat → ClassId) (dI : Nat → Nat → Nat) (cI cZ cL cJ : ClassId) (h : Nat) (v0 : Int32) (v1 : Int32) (v2 : Int32) (v3 : Int32) (v5 : Int32) (hh : Nat) (ww : Nat) (kk : Nat) (b1 : Nat) (b2 : Nat) (b3 : Nat) (b4 : Nat) (b5 : Nat) (g1 : Nat → Int32) (g2 : Nat → Int32) (g3 : Nat → Int32) (g4 : Nat → Int32) (g5 : Nat → Int32) (n : Int32) (hhb : hh < 2000000000) (hww : ww ≤ 6) (hkk : kk ≤ 6) : Met l yX3_hasSound wsX3_hasSound ({ frames := 0, cells := 0, slots := 0, locals := 0 }) (va_Pc [.ref h, .int n] (fun U => va_P (dC, dI) vwCl [(xo_3_iiiiiiiirrrrr h v0 v1 v2 v3 (nI hh) v5 (nI ww) (nI kk) b1 b2 b3 b4 b5), (xI b1 cI 6 g1), (xI b2 cI 6 g2), (xI b3 cI 6 g3), (xI b4 cI 6 g4), (xI b5 cI 6 g5)] U.heap ∧ va_K (dC, dI) vwCl [(cI, .int), (cZ, .boolean), (cL, .object RX3), (cJ, .array .int)] U)) (vp_Si (fun r => (r = 0 ∧ (n < 0 ∨ (nI kk) ≤ n)) ∨ (r = 1 ∧ vp_in n kk))) 0 0 (fun _ => False) := by
  refine Met.ofW (cc := cX3_hasSound) (maxL := 2) (ret := (some .boolean)) (by decide) rfl ?_
  intro p e s m args below meth c s₁ B hml hv
  obtain ⟨rfl, hP, hK⟩ := hv
  have hx := B.exec
  have hb := B.bytes
  have hr := B.returns
  have hts := atoms_spec (ws := wsX3_hasSound) B.pre
  have hown : s.vm.findClass RX3 = some m.cls := findClass_of_methodNamed B.named
  have hlocks := B.notSynchronized
  have hP : va_P (dC, dI) vwCl [(xo_3_iiiiiiiirrrrr h v0 v1 v2 v3 (nI hh) v5 (nI ww) (nI kk) b1 b2 b3 b4 b5), (xI b1 cI 6 g1), (xI b2 cI 6 g2), (xI b3 cI 6 g3), (xI b4 cI 6 g4), (xI b5 cI 6 g5)] s.heap := hP
  have hl := lv_entry ([.ref h, .int n]) (n := 2) (Nat.le_of_ble_eq_true rfl)
  rw [lg_entry_eq]
  generalize (lg_sl ([.ref h, .int n]) ++ List.replicate (2 - (lg_sl ([.ref h, .int n])).length) Slot.unset).toArray = ls at hl ⊢
  have hl : lv_has ls 2 [(0, .ref h), (1, .int n)] := hl
  refine lv_iload_n hx hb dX3_hasSound_0 rfl (lv_at hl 1 rfl) ?_
  refine lv_if_lt (tgt := 16) hx hb dX3_hasSound_1 (by decide) (fun c_1 => ?_) (fun c_1 => ?_)
  · skip
    refine lv_iconst (v := 0) hx hb dX3_hasSound_16 (by decide) ?_
    exact W.zret (v := 0) hx hb hr (by decide) (fun t ht hW => ⟨0, rfl, Or.inl (⟨rfl, (lf_X3_hasSound_1 hhb hww hkk c_1)⟩), ht⟩) (fun _ h => by cases h) dX3_hasSound_17
  · skip
    refine lv_iload_n hx hb dX3_hasSound_4 rfl (lv_at hl 1 rfl) ?_
    refine lv_aload_n hx hb dX3_hasSound_5 rfl (lv_at hl 0 rfl) ?_
    refine va_get (D := (dC, dI)) (ci := 3) (v := .int (nI kk)) (C := RX3) (T := TX3) (N := 13) hx hb hts i_X3_hasSound_X3 hown hK hP 0 rfl rfl 7 (by decide) (hts _ mx_X3_hasSound_1) (fun _ h9 => h9) rfl dX3_hasSound_6 ?_
    refine lv_icmp_ge (tgt := 16) hx hb dX3_hasSound_9 (by decide) (fun c_2 => ?_) (fun c_2 => ?_)
    · skip
      refine lv_iconst (v := 0) hx hb dX3_hasSound_16 (by decide) ?_
      exact W.zret (v := 0) hx hb hr (by decide) (fun t ht hW => ⟨0, rfl, Or.inl (⟨rfl, (lf_X3_hasSound_2 hhb hww hkk c_1 c_2)⟩), ht⟩) (fun _ h => by cases h) dX3_hasSound_17
    · skip
      refine lv_iconst (v := 1) hx hb dX3_hasSound_12 (by decide) ?_
      refine lv_goto (tgt := 17) hx hb dX3_hasSound_13 (by decide) ?_
      exact W.zret (v := 1) hx hb hr (by decide) (fun t ht hW => ⟨1, rfl, Or.inr (⟨rfl, (in_of c_1 c_2 (by omega))⟩), ht⟩) (fun _ h => by cases h) dX3_hasSound_17
theorem lf_X3_hasWind_1 {hh : Nat} {ww : Nat} {kk : Nat} {n : Int32} (hhb : hh < 2000000000) (hww : ww ≤ 6) (hkk : kk ≤ 6) (c_1 : n < 0) : (n < 0 ∨ (nI ww) ≤ n) := by
  grind
theorem lf_X3_hasWind_2 {hh : Nat} {ww : Nat} {kk : Nat} {n : Int32} (hhb : hh < 2000000000) (hww : ww ≤ 6) (hkk : kk ≤ 6) (c_1 : ¬ (n < 0)) (c_2 : (nI ww) ≤ n) : (n < 0 ∨ (nI ww) ≤ n) := by
  grind
set_option maxHeartbeats 4000000 in
set_option maxRecDepth 100000 in
theorem r_X3_hasWind (l : Launch) (dC : Nat → ClassId) (dI : Nat → Nat → Nat) (cI cZ cL cJ : ClassId) (h : Nat) (v0 : Int32) (v1 : Int32) (v2 : Int32) (v3 : Int32) (v5 : Int32) (hh : Nat) (ww : Nat) (kk : Nat) (b1 : Nat) (b2 : Nat) (b3 : Nat) (b4 : Nat) (b5 : Nat) (g1 : Nat → Int32) (g2 : Nat → Int32) (g3 : Nat → Int32) (g4 : Nat → Int32) (g5 : Nat → Int32) (n : Int32) (hhb : hh < 2000000000) (hww : ww ≤ 6) (hkk : kk ≤ 6) : Met l yX3_hasWind wsX3_hasWind ({ frames := 0, cells := 0, slots := 0, locals := 0 }) (va_Pc [.ref h, .int n] (fun U => va_P (dC, dI) vwCl [(xo_3_iiiiiiiirrrrr h v0 v1 v2 v3 (nI hh) v5 (nI ww) (nI kk) b1 b2 b3 b4 b5), (xI b1 cI 6 g1), (xI b2 cI 6 g2), (xI b3 cI 6 g3), (xI b4 cI 6 g4), (xI b5 cI 6 g5)] U.heap ∧ va_K (dC, dI) vwCl [(cI, .int), (cZ, .boolean), (cL, .object RX3), (cJ, .array .int)] U)) (vp_Si (fun r => (r = 0 ∧ (n < 0 ∨ (nI ww) ≤ n)) ∨ (r = 1 ∧ vp_in n ww))) 0 0 (fun _ => False) := by
  refine Met.ofW (cc := cX3_hasWind) (maxL := 2) (ret := (some .boolean)) (by decide) rfl ?_
  intro p e s m args below meth c s₁ B hml hv
  obtain ⟨rfl, hP, hK⟩ := hv
  have hx := B.exec
  have hb := B.bytes
  have hr := B.returns
  have hts := atoms_spec (ws := wsX3_hasWind) B.pre
  have hown : s.vm.findClass RX3 = some m.cls := findClass_of_methodNamed B.named
  have hlocks := B.notSynchronized
  have hP : va_P (dC, dI) vwCl [(xo_3_iiiiiiiirrrrr h v0 v1 v2 v3 (nI hh) v5 (nI ww) (nI kk) b1 b2 b3 b4 b5), (xI b1 cI 6 g1), (xI b2 cI 6 g2), (xI b3 cI 6 g3), (xI b4 cI 6 g4), (xI b5 cI 6 g5)] s.heap := hP
  have hl := lv_entry ([.ref h, .int n]) (n := 2) (Nat.le_of_ble_eq_true rfl)
  rw [lg_entry_eq]
  generalize (lg_sl ([.ref h, .int n]) ++ List.replicate (2 - (lg_sl ([.ref h, .int n])).length) Slot.unset).toArray = ls at hl ⊢
  have hl : lv_has ls 2 [(0, .ref h), (1, .int n)] := hl
  refine lv_iload_n hx hb dX3_hasWind_0 rfl (lv_at hl 1 rfl) ?_
  refine lv_if_lt (tgt := 16) hx hb dX3_hasWind_1 (by decide) (fun c_1 => ?_) (fun c_1 => ?_)
  · skip
    refine lv_iconst (v := 0) hx hb dX3_hasWind_16 (by decide) ?_
    exact W.zret (v := 0) hx hb hr (by decide) (fun t ht hW => ⟨0, rfl, Or.inl (⟨rfl, (lf_X3_hasWind_1 hhb hww hkk c_1)⟩), ht⟩) (fun _ h => by cases h) dX3_hasWind_17
  · skip
    refine lv_iload_n hx hb dX3_hasWind_4 rfl (lv_at hl 1 rfl) ?_
    refine lv_aload_n hx hb dX3_hasWind_5 rfl (lv_at hl 0 rfl) ?_
    refine va_get (D := (dC, dI)) (ci := 3) (v := .int (nI ww)) (C := RX3) (T := TX3) (N := 13) hx hb hts i_X3_hasWind_X3 hown hK hP 0 rfl rfl 6 (by decide) (hts _ mx_X3_hasWind_1) (fun _ h9 => h9) rfl dX3_hasWind_6 ?_
    refine lv_icmp_ge (tgt := 16) hx hb dX3_hasWind_9 (by decide) (fun c_2 => ?_) (fun c_2 => ?_)
    · skip
      refine lv_iconst (v := 0) hx hb dX3_hasWind_16 (by decide) ?_
      exact W.zret (v := 0) hx hb hr (by decide) (fun t ht hW => ⟨0, rfl, Or.inl (⟨rfl, (lf_X3_hasWind_2 hhb hww hkk c_1 c_2)⟩), ht⟩) (fun _ h => by cases h) dX3_hasWind_17
    · skip
      refine lv_iconst (v := 1) hx hb dX3_hasWind_12 (by decide) ?_
      refine lv_goto (tgt := 17) hx hb dX3_hasWind_13 (by decide) ?_
      exact W.zret (v := 1) hx hb hr (by decide) (fun t ht hW => ⟨1, rfl, Or.inr (⟨rfl, (in_of c_1 c_2 (by omega))⟩), ht⟩) (fun _ h => by cases h) dX3_hasWind_17
theorem lf_X3_isLoose_1 {hh : Nat} {ww : Nat} {kk : Nat} {g5 : Nat → Int32} {i : Nat} {v_1 : Int32} (hhb : hh < 2000000000) (hww : ww ≤ 6) (hkk : kk ≤ 6) (hi : i < 6) (e_1 : v_1 = g5 i) (c_2 : ¬ (v_1 = 0)) : ¬ g5 i = 0 := by
  grind
theorem lf_X3_isLoose_2 {hh : Nat} {ww : Nat} {kk : Nat} {g5 : Nat → Int32} {i : Nat} {v_1 : Int32} (hhb : hh < 2000000000) (hww : ww ≤ 6) (hkk : kk ≤ 6) (hi : i < 6) (e_1 : v_1 = g5 i) (c_2 : v_1 = 0) : g5 i = 0 := by
  grind
set_option maxHeartbeats 4000000 in
set_option maxRecDepth 100000 in
theorem r_X3_isLoose (l : Launch) (dC : Nat → ClassId) (dI : Nat → Nat → Nat) (cI cZ cL cJ : ClassId) (h : Nat) (v0 : Int32) (v1 : Int32) (v2 : Int32) (v3 : Int32) (v5 : Int32) (hh : Nat) (ww : Nat) (kk : Nat) (b1 : Nat) (b2 : Nat) (b3 : Nat) (b4 : Nat) (b5 : Nat) (g1 : Nat → Int32) (g2 : Nat → Int32) (g3 : Nat → Int32) (g4 : Nat → Int32) (g5 : Nat → Int32) (i : Nat) (hhb : hh < 2000000000) (hww : ww ≤ 6) (hkk : kk ≤ 6) (hi : i < 6) : Met l yX3_isLoose wsX3_isLoose ({ frames := 0, cells := 0, slots := 0, locals := 0 }) (va_Pc [.ref h, .int (nI i)] (fun U => va_P (dC, dI) vwCl [(xo_3_iiiiiiiirrrrr h v0 v1 v2 v3 (nI hh) v5 (nI ww) (nI kk) b1 b2 b3 b4 b5), (xI b1 cI 6 g1), (xI b2 cI 6 g2), (xI b3 cI 6 g3), (xI b4 cI 6 g4), (xI b5 cI 6 g5)] U.heap ∧ va_K (dC, dI) vwCl [(cI, .int), (cZ, .boolean), (cL, .object RX3), (cJ, .array .int)] U)) (vp_Si (fun r => (r = 0 ∧ ¬ g5 i = 0) ∨ (r = 1 ∧ g5 i = 0))) 0 0 (fun _ => False) := by
  refine Met.ofW (cc := cX3_isLoose) (maxL := 2) (ret := (some .boolean)) (by decide) rfl ?_
  intro p e s m args below meth c s₁ B hml hv
  obtain ⟨rfl, hP, hK⟩ := hv
  have hx := B.exec
  have hb := B.bytes
  have hr := B.returns
  have hts := atoms_spec (ws := wsX3_isLoose) B.pre
  have hown : s.vm.findClass RX3 = some m.cls := findClass_of_methodNamed B.named
  have hlocks := B.notSynchronized
  have hP : va_P (dC, dI) vwCl [(xo_3_iiiiiiiirrrrr h v0 v1 v2 v3 (nI hh) v5 (nI ww) (nI kk) b1 b2 b3 b4 b5), (xI b1 cI 6 g1), (xI b2 cI 6 g2), (xI b3 cI 6 g3), (xI b4 cI 6 g4), (xI b5 cI 6 g5)] s.heap := hP
  have hl := lv_entry ([.ref h, .int (nI i)]) (n := 2) (Nat.le_of_ble_eq_true rfl)
  rw [lg_entry_eq]
  generalize (lg_sl ([.ref h, .int (nI i)]) ++ List.replicate (2 - (lg_sl ([.ref h, .int (nI i)])).length) Slot.unset).toArray = ls at hl ⊢
  have hl : lv_has ls 2 [(0, .ref h), (1, .int (nI i))] := hl
  refine lv_aload_n hx hb dX3_isLoose_0 rfl (lv_at hl 0 rfl) ?_
  refine va_get (D := (dC, dI)) (ci := 3) (v := .ref b5) (C := RX3) (T := TX3) (N := 13) hx hb hts i_X3_isLoose_X3 hown hK hP 0 rfl rfl 12 (by decide) (hts _ mx_X3_isLoose_1) (fun _ h9 => h9) rfl dX3_isLoose_1 ?_
  refine lv_iload_n hx hb dX3_isLoose_4 rfl (lv_at hl 1 rfl) ?_
  refine va_iald hx hb hK hP 5 0 rfl rfl (vp_in_nI (by omega) (by omega)) dX3_isLoose_5 ?_
  refine lv_topi (fun v_1 e_1 => ?_)
  have e_1 : v_1 = g5 i := e_1.trans (congrArg g5 (nI_clamp (by omega)))
  refine lv_if_ne (tgt := 13) hx hb dX3_isLoose_6 (by decide) (fun c_2 => ?_) (fun c_2 => ?_)
  · skip
    refine lv_iconst (v := 0) hx hb dX3_isLoose_13 (by decide) ?_
    exact W.zret (v := 0) hx hb hr (by decide) (fun t ht hW => ⟨0, rfl, Or.inl (⟨rfl, (lf_X3_isLoose_1 hhb hww hkk hi e_1 c_2)⟩), ht⟩) (fun _ h => by cases h) dX3_isLoose_14
  · skip
    refine lv_iconst (v := 1) hx hb dX3_isLoose_9 (by decide) ?_
    refine lv_goto (tgt := 14) hx hb dX3_isLoose_10 (by decide) ?_
    exact W.zret (v := 1) hx hb hr (by decide) (fun t ht hW => ⟨1, rfl, Or.inr (⟨rfl, (lf_X3_isLoose_2 hhb hww hkk hi e_1 c_2)⟩), ht⟩) (fun _ h => by cases h) dX3_isLoose_14
theorem lf_X3_soundsThatAre_1 {hh : Nat} {ww : Nat} {kk : Nat} {g5 : Nat → Int32} {n : Int32} {w_7 : Int32} {ii : Nat} {v_16 : Int32} {v_18 : Int32} (hhb : hh < 2000000000) (hww : ww ≤ 6) (hkk : kk ≤ 6) (hii : ii < kk) (haf_0 : (w_7 = thR g5 n ii)) (e_16 : v_16 = g5 ii) (c_17 : ¬ (v_16 = n)) (e_18 : v_18 = (w_7 ||| 0)) : v_18 = thR g5 n (ii + 1) := by
  first | assumption | (simp only [thR]; grind)
theorem lf_X3_soundsThatAre_2 {hh : Nat} {ww : Nat} {kk : Nat} {g5 : Nat → Int32} {n : Int32} {w_7 : Int32} {ii : Nat} {v_16 : Int32} {v_19 : Int32} {v_20 : Int32} (hhb : hh < 2000000000) (hww : ww ≤ 6) (hkk : kk ≤ 6) (hii : ii < kk) (haf_0 : (w_7 = thR g5 n ii)) (e_16 : v_16 = g5 ii) (c_17 : v_16 = n) (e_19 : v_19 = ((1 : Int32) <<< (((nI ii) : Int32) &&& 31))) (e_20 : v_20 = (w_7 ||| v_19)) : v_20 = thR g5 n (ii + 1) := by
  first | assumption | (simp only [thR]; grind)
theorem lf_X3_soundsThatAre_3 {hh : Nat} {ww : Nat} {kk : Nat} {g5 : Nat → Int32} {n : Int32} {w_7 : Int32} (hhb : hh < 2000000000) (hww : ww ≤ 6) (hkk : kk ≤ 6) (haf_0 : (w_7 = thR g5 n kk)) : w_7 = (thR g5 n kk) := by
  first | assumption | (simp only [thR]; grind)
set_option maxHeartbeats 4000000 in
set_option maxRecDepth 100000 in
theorem r_X3_soundsThatAre (l : Launch) (dC : Nat → ClassId) (dI : Nat → Nat → Nat) (cI cZ cL cJ : ClassId) (h : Nat) (v0 : Int32) (v1 : Int32) (v2 : Int32) (v3 : Int32) (v5 : Int32) (hh : Nat) (ww : Nat) (kk : Nat) (b1 : Nat) (b2 : Nat) (b3 : Nat) (b4 : Nat) (b5 : Nat) (g1 : Nat → Int32) (g2 : Nat → Int32) (g3 : Nat → Int32) (g4 : Nat → Int32) (g5 : Nat → Int32) (n : Int32) (hhb : hh < 2000000000) (hww : ww ≤ 6) (hkk : kk ≤ 6) : Met l yX3_soundsThatAre wsX3_soundsThatAre ({ frames := 0, cells := 0, slots := 0, locals := 0 }) (va_Pc [.ref h, .int n] (fun U => va_P (dC, dI) vwCl [(xo_3_iiiiiiiirrrrr h v0 v1 v2 v3 (nI hh) v5 (nI ww) (nI kk) b1 b2 b3 b4 b5), (xI b1 cI 6 g1), (xI b2 cI 6 g2), (xI b3 cI 6 g3), (xI b4 cI 6 g4), (xI b5 cI 6 g5)] U.heap ∧ va_K (dC, dI) vwCl [(cI, .int), (cZ, .boolean), (cL, .object RX3), (cJ, .array .int)] U)) (vp_Si (fun r => r = (thR g5 n kk))) 0 0 (fun _ => False) := by
  refine Met.ofW (cc := cX3_soundsThatAre) (maxL := 4) (ret := (some .int)) (by decide) rfl ?_
  intro p e s m args below meth c s₁ B hml hv
  obtain ⟨rfl, hP, hK⟩ := hv
  have hx := B.exec
  have hb := B.bytes
  have hr := B.returns
  have hts := atoms_spec (ws := wsX3_soundsThatAre) B.pre
  have hown : s.vm.findClass RX3 = some m.cls := findClass_of_methodNamed B.named
  have hlocks := B.notSynchronized
  have hP : va_P (dC, dI) vwCl [(xo_3_iiiiiiiirrrrr h v0 v1 v2 v3 (nI hh) v5 (nI ww) (nI kk) b1 b2 b3 b4 b5), (xI b1 cI 6 g1), (xI b2 cI 6 g2), (xI b3 cI 6 g3), (xI b4 cI 6 g4), (xI b5 cI 6 g5)] s.heap := hP
  have hl := lv_entry ([.ref h, .int n]) (n := 4) (Nat.le_of_ble_eq_true rfl)
  rw [lg_entry_eq]
  generalize (lg_sl ([.ref h, .int n]) ++ List.replicate (4 - (lg_sl ([.ref h, .int n])).length) Slot.unset).toArray = ls at hl ⊢
  have hl : lv_has ls 4 [(0, .ref h), (1, .int n)] := hl
  refine lv_iconst (v := 0) hx hb dX3_soundsThatAre_0 (by decide) ?_
  refine lv_istore_n (lv' := [(2, .int 0), (0, .ref h), (1, .int n)]) hx hb dX3_soundsThatAre_1 rfl hl (by decide) rfl (fun ls hl => ?_)
  refine lv_iconst (v := 0) hx hb dX3_soundsThatAre_2 (by decide) ?_
  refine lv_istore_n (lv' := [(3, .int 0), (2, .int 0), (0, .ref h), (1, .int n)]) hx hb dX3_soundsThatAre_3 rfl hl (by decide) rfl (fun ls hl => ?_)
  refine lp_go (σ := (Int32)) (fun ii (st : (Int32)) H locs ls => match st with | w_7 => lv_has ls 4 [(3, .int (nI ii)), (2, .int w_7), (0, .ref h), (1, .int n)] ∧ H = s.heap ∧ locs = [] ∧ (w_7 = thR g5 n ii)) kk ?_ ?_ 0 (by omega) (0) ⟨lv_sub hl [0, 1, 2, 3] rfl, rfl, rfl, rfl⟩
  · rintro ii w_7 H locs ls hii ⟨hl, rfl, rfl, haf_0⟩ ih
    refine lv_iload_n hx hb dX3_soundsThatAre_4 rfl (lv_at hl 0 rfl) ?_
    refine lv_aload_n hx hb dX3_soundsThatAre_5 rfl (lv_at hl 2 rfl) ?_
    refine va_get (D := (dC, dI)) (ci := 3) (v := .int (nI kk)) (C := RX3) (T := TX3) (N := 13) hx hb hts i_X3_soundsThatAre_X3 hown hK hP 0 rfl rfl 7 (by decide) (hts _ mx_X3_soundsThatAre_1) (fun _ h9 => h9) rfl dX3_soundsThatAre_6 ?_
    refine lv_icmp_ge (tgt := 38) hx hb dX3_soundsThatAre_9 (by decide) (fun c_ => absurd c_ (fun q_ => absurd ((nI_leI (a := kk) (b := ii) (by omega) (by omega)).mp q_) (by omega))) (fun _ => ?_)
    refine lv_iload_n hx hb dX3_soundsThatAre_12 rfl (lv_at hl 1 rfl) ?_
    refine lv_aload_n hx hb dX3_soundsThatAre_13 rfl (lv_at hl 2 rfl) ?_
    refine va_get (D := (dC, dI)) (ci := 3) (v := .ref b5) (C := RX3) (T := TX3) (N := 13) hx hb hts i_X3_soundsThatAre_X3 hown hK hP 0 rfl rfl 12 (by decide) (hts _ mx_X3_soundsThatAre_2) (fun _ h9 => h9) rfl dX3_soundsThatAre_14 ?_
    refine lv_iload_n hx hb dX3_soundsThatAre_17 rfl (lv_at hl 0 rfl) ?_
    refine va_iald hx hb hK hP 5 0 rfl rfl (vp_in_nI (by omega) (by omega)) dX3_soundsThatAre_18 ?_
    refine lv_topi (fun v_16 e_16 => ?_)
    have e_16 : v_16 = g5 ii := e_16.trans (congrArg g5 (nI_clamp (by omega)))
    refine lv_iload_n hx hb dX3_soundsThatAre_19 rfl (lv_at hl 3 rfl) ?_
    refine lv_icmp_ne (tgt := 29) hx hb dX3_soundsThatAre_20 (by decide) (fun c_17 => ?_) (fun c_17 => ?_)
    · skip
      refine lv_iconst (v := 0) hx hb dX3_soundsThatAre_29 (by decide) ?_
      refine lv_ior hx hb dX3_soundsThatAre_30 ?_
      refine lv_topi (fun v_18 e_18 => ?_)
      refine lv_istore_n (lv' := [(2, .int v_18), (3, .int (nI ii)), (0, .ref h), (1, .int n)]) hx hb dX3_soundsThatAre_31 rfl hl (by decide) rfl (fun ls hl => ?_)
      refine lv_iinc (v := (nI (ii + 1))) (lv' := [(3, .int (nI (ii + 1))), (2, .int v_18), (0, .ref h), (1, .int n)]) hx hb dX3_soundsThatAre_32 hl (k := 1) rfl (nI_add ii 1) (by decide) rfl (fun ls hl => ?_)
      refine lv_goto (tgt := 4) hx hb dX3_soundsThatAre_35 (by decide) ?_
      exact ih (v_18) _ _ _ ⟨lv_sub hl [0, 1, 2, 3] rfl, rfl, rfl, (lf_X3_soundsThatAre_1 hhb hww hkk hii haf_0 e_16 c_17 e_18)⟩
    · skip
      refine lv_iconst (v := 1) hx hb dX3_soundsThatAre_23 (by decide) ?_
      refine lv_iload_n hx hb dX3_soundsThatAre_24 rfl (lv_at hl 0 rfl) ?_
      refine lv_ishl hx hb dX3_soundsThatAre_25 ?_
      refine lv_topi (fun v_19 e_19 => ?_)
      refine lv_goto (tgt := 30) hx hb dX3_soundsThatAre_26 (by decide) ?_
      refine lv_ior hx hb dX3_soundsThatAre_30 ?_
      refine lv_topi (fun v_20 e_20 => ?_)
      refine lv_istore_n (lv' := [(2, .int v_20), (3, .int (nI ii)), (0, .ref h), (1, .int n)]) hx hb dX3_soundsThatAre_31 rfl hl (by decide) rfl (fun ls hl => ?_)
      refine lv_iinc (v := (nI (ii + 1))) (lv' := [(3, .int (nI (ii + 1))), (2, .int v_20), (0, .ref h), (1, .int n)]) hx hb dX3_soundsThatAre_32 hl (k := 1) rfl (nI_add ii 1) (by decide) rfl (fun ls hl => ?_)
      refine lv_goto (tgt := 4) hx hb dX3_soundsThatAre_35 (by decide) ?_
      exact ih (v_20) _ _ _ ⟨lv_sub hl [0, 1, 2, 3] rfl, rfl, rfl, (lf_X3_soundsThatAre_2 hhb hww hkk hii haf_0 e_16 c_17 e_19 e_20)⟩
  · rintro w_7 H locs ls ⟨hl, rfl, rfl, haf_0⟩
    refine lv_iload_n hx hb dX3_soundsThatAre_4 rfl (lv_at hl 0 rfl) ?_
    refine lv_aload_n hx hb dX3_soundsThatAre_5 rfl (lv_at hl 2 rfl) ?_
    refine va_get (D := (dC, dI)) (ci := 3) (v := .int (nI kk)) (C := RX3) (T := TX3) (N := 13) hx hb hts i_X3_soundsThatAre_X3 hown hK hP 0 rfl rfl 7 (by decide) (hts _ mx_X3_soundsThatAre_1) (fun _ h9 => h9) rfl dX3_soundsThatAre_6 ?_
    refine lv_icmp_ge (tgt := 38) hx hb dX3_soundsThatAre_9 (by decide) (fun _ => ?_) (fun c_ => absurd ((nI_leI (a := kk) (b := kk) (by omega) (by omega)).mpr (by omega)) c_)
    refine lv_iload_n hx hb dX3_soundsThatAre_38 rfl (lv_at hl 1 rfl) ?_
    exact W.iret (v := w_7) hx hb hr (fun t ht hW => ⟨w_7, rfl, (lf_X3_soundsThatAre_3 hhb hww hkk haf_0), ht⟩) (fun _ h => by cases h) dX3_soundsThatAre_39
theorem lf_X3_loudOf_1 {hh : Nat} {ww : Nat} {kk : Nat} {g4 : Nat → Int32} {n : Int32} {w_8 : Int32} {ii : Nat} {v_18 : Int32} {v_19 : Int32} {v_21 : Int32} (hhb : hh < 2000000000) (hww : ww ≤ 6) (hkk : kk ≤ 6) (hii : ii < kk) (haf_0 : (w_8 = ldR g4 n ii)) (e_18 : v_18 = ((n : Int32) >>> (((nI ii) : Int32) &&& 31))) (e_19 : v_19 = (v_18 &&& 1)) (c_20 : ¬ (v_19 = 1)) (e_21 : v_21 = (w_8 + 0)) : v_21 = ldR g4 n (ii + 1) := by
  first | assumption | (simp only [ldR]; grind)
theorem lf_X3_loudOf_2 {hh : Nat} {ww : Nat} {kk : Nat} {g4 : Nat → Int32} {n : Int32} {w_8 : Int32} {ii : Nat} {v_18 : Int32} {v_19 : Int32} {v_22 : Int32} {v_23 : Int32} (hhb : hh < 2000000000) (hww : ww ≤ 6) (hkk : kk ≤ 6) (hii : ii < kk) (haf_0 : (w_8 = ldR g4 n ii)) (e_18 : v_18 = ((n : Int32) >>> (((nI ii) : Int32) &&& 31))) (e_19 : v_19 = (v_18 &&& 1)) (c_20 : v_19 = 1) (e_22 : v_22 = g4 ii) (e_23 : v_23 = (w_8 + v_22)) : v_23 = ldR g4 n (ii + 1) := by
  first | assumption | (simp only [ldR]; grind)
theorem lf_X3_loudOf_3 {hh : Nat} {ww : Nat} {kk : Nat} {g4 : Nat → Int32} {n : Int32} {w_8 : Int32} (hhb : hh < 2000000000) (hww : ww ≤ 6) (hkk : kk ≤ 6) (haf_0 : (w_8 = ldR g4 n kk)) : w_8 = (ldR g4 n kk) := by
  first | assumption | (simp only [ldR]; grind)
set_option maxHeartbeats 4000000 in
set_option maxRecDepth 100000 in
theorem r_X3_loudOf (l : Launch) (dC : Nat → ClassId) (dI : Nat → Nat → Nat) (cI cZ cL cJ : ClassId) (h : Nat) (v0 : Int32) (v1 : Int32) (v2 : Int32) (v3 : Int32) (v5 : Int32) (hh : Nat) (ww : Nat) (kk : Nat) (b1 : Nat) (b2 : Nat) (b3 : Nat) (b4 : Nat) (b5 : Nat) (g1 : Nat → Int32) (g2 : Nat → Int32) (g3 : Nat → Int32) (g4 : Nat → Int32) (g5 : Nat → Int32) (n : Int32) (hhb : hh < 2000000000) (hww : ww ≤ 6) (hkk : kk ≤ 6) : Met l yX3_loudOf wsX3_loudOf ({ frames := 0, cells := 0, slots := 0, locals := 0 }) (va_Pc [.ref h, .int n] (fun U => va_P (dC, dI) vwCl [(xo_3_iiiiiiiirrrrr h v0 v1 v2 v3 (nI hh) v5 (nI ww) (nI kk) b1 b2 b3 b4 b5), (xI b1 cI 6 g1), (xI b2 cI 6 g2), (xI b3 cI 6 g3), (xI b4 cI 6 g4), (xI b5 cI 6 g5)] U.heap ∧ va_K (dC, dI) vwCl [(cI, .int), (cZ, .boolean), (cL, .object RX3), (cJ, .array .int)] U)) (vp_Si (fun r => r = (ldR g4 n kk))) 0 0 (fun _ => False) := by
  refine Met.ofW (cc := cX3_loudOf) (maxL := 4) (ret := (some .int)) (by decide) rfl ?_
  intro p e s m args below meth c s₁ B hml hv
  obtain ⟨rfl, hP, hK⟩ := hv
  have hx := B.exec
  have hb := B.bytes
  have hr := B.returns
  have hts := atoms_spec (ws := wsX3_loudOf) B.pre
  have hown : s.vm.findClass RX3 = some m.cls := findClass_of_methodNamed B.named
  have hlocks := B.notSynchronized
  have hP : va_P (dC, dI) vwCl [(xo_3_iiiiiiiirrrrr h v0 v1 v2 v3 (nI hh) v5 (nI ww) (nI kk) b1 b2 b3 b4 b5), (xI b1 cI 6 g1), (xI b2 cI 6 g2), (xI b3 cI 6 g3), (xI b4 cI 6 g4), (xI b5 cI 6 g5)] s.heap := hP
  have hl := lv_entry ([.ref h, .int n]) (n := 4) (Nat.le_of_ble_eq_true rfl)
  rw [lg_entry_eq]
  generalize (lg_sl ([.ref h, .int n]) ++ List.replicate (4 - (lg_sl ([.ref h, .int n])).length) Slot.unset).toArray = ls at hl ⊢
  have hl : lv_has ls 4 [(0, .ref h), (1, .int n)] := hl
  refine lv_iconst (v := 0) hx hb dX3_loudOf_0 (by decide) ?_
  refine lv_istore_n (lv' := [(2, .int 0), (0, .ref h), (1, .int n)]) hx hb dX3_loudOf_1 rfl hl (by decide) rfl (fun ls hl => ?_)
  refine lv_iconst (v := 0) hx hb dX3_loudOf_2 (by decide) ?_
  refine lv_istore_n (lv' := [(3, .int 0), (2, .int 0), (0, .ref h), (1, .int n)]) hx hb dX3_loudOf_3 rfl hl (by decide) rfl (fun ls hl => ?_)
  refine lp_go (σ := (Int32)) (fun ii (st : (Int32)) H locs ls => match st with | w_8 => lv_has ls 4 [(3, .int (nI ii)), (2, .int w_8), (0, .ref h), (1, .int n)] ∧ H = s.heap ∧ locs = [] ∧ (w_8 = ldR g4 n ii)) kk ?_ ?_ 0 (by omega) (0) ⟨lv_sub hl [0, 1, 2, 3] rfl, rfl, rfl, rfl⟩
  · rintro ii w_8 H locs ls hii ⟨hl, rfl, rfl, haf_0⟩ ih
    refine lv_iload_n hx hb dX3_loudOf_4 rfl (lv_at hl 0 rfl) ?_
    refine lv_aload_n hx hb dX3_loudOf_5 rfl (lv_at hl 2 rfl) ?_
    refine va_get (D := (dC, dI)) (ci := 3) (v := .int (nI kk)) (C := RX3) (T := TX3) (N := 13) hx hb hts i_X3_loudOf_X3 hown hK hP 0 rfl rfl 7 (by decide) (hts _ mx_X3_loudOf_1) (fun _ h9 => h9) rfl dX3_loudOf_6 ?_
    refine lv_icmp_ge (tgt := 40) hx hb dX3_loudOf_9 (by decide) (fun c_ => absurd c_ (fun q_ => absurd ((nI_leI (a := kk) (b := ii) (by omega) (by omega)).mp q_) (by omega))) (fun _ => ?_)
    refine lv_iload_n hx hb dX3_loudOf_12 rfl (lv_at hl 1 rfl) ?_
    refine lv_iload_n hx hb dX3_loudOf_13 rfl (lv_at hl 3 rfl) ?_
    refine lv_iload_n hx hb dX3_loudOf_14 rfl (lv_at hl 0 rfl) ?_
    refine lv_ishr hx hb dX3_loudOf_15 ?_
    refine lv_topi (fun v_18 e_18 => ?_)
    refine lv_iconst (v := 1) hx hb dX3_loudOf_16 (by decide) ?_
    refine lv_iand hx hb dX3_loudOf_17 ?_
    refine lv_topi (fun v_19 e_19 => ?_)
    refine lv_iconst (v := 1) hx hb dX3_loudOf_18 (by decide) ?_
    refine lv_icmp_ne (tgt := 31) hx hb dX3_loudOf_19 (by decide) (fun c_20 => ?_) (fun c_20 => ?_)
    · skip
      refine lv_iconst (v := 0) hx hb dX3_loudOf_31 (by decide) ?_
      refine lv_iadd hx hb dX3_loudOf_32 ?_
      refine lv_topi (fun v_21 e_21 => ?_)
      refine lv_istore_n (lv' := [(2, .int v_21), (3, .int (nI ii)), (0, .ref h), (1, .int n)]) hx hb dX3_loudOf_33 rfl hl (by decide) rfl (fun ls hl => ?_)
      refine lv_iinc (v := (nI (ii + 1))) (lv' := [(3, .int (nI (ii + 1))), (2, .int v_21), (0, .ref h), (1, .int n)]) hx hb dX3_loudOf_34 hl (k := 1) rfl (nI_add ii 1) (by decide) rfl (fun ls hl => ?_)
      refine lv_goto (tgt := 4) hx hb dX3_loudOf_37 (by decide) ?_
      exact ih (v_21) _ _ _ ⟨lv_sub hl [0, 1, 2, 3] rfl, rfl, rfl, (lf_X3_loudOf_1 hhb hww hkk hii haf_0 e_18 e_19 c_20 e_21)⟩
    · skip
      refine lv_aload_n hx hb dX3_loudOf_22 rfl (lv_at hl 2 rfl) ?_
      refine va_get (D := (dC, dI)) (ci := 3) (v := .ref b4) (C := RX3) (T := TX3) (N := 13) hx hb hts i_X3_loudOf_X3 hown hK hP 0 rfl rfl 11 (by decide) (hts _ mx_X3_loudOf_2) (fun _ h9 => h9) rfl dX3_loudOf_23 ?_
      refine lv_iload_n hx hb dX3_loudOf_26 rfl (lv_at hl 0 rfl) ?_
      refine va_iald hx hb hK hP 4 0 rfl rfl (vp_in_nI (by omega) (by omega)) dX3_loudOf_27 ?_
      refine lv_topi (fun v_22 e_22 => ?_)
      have e_22 : v_22 = g4 ii := e_22.trans (congrArg g4 (nI_clamp (by omega)))
      refine lv_goto (tgt := 32) hx hb dX3_loudOf_28 (by decide) ?_
      refine lv_iadd hx hb dX3_loudOf_32 ?_
      refine lv_topi (fun v_23 e_23 => ?_)
      refine lv_istore_n (lv' := [(2, .int v_23), (3, .int (nI ii)), (0, .ref h), (1, .int n)]) hx hb dX3_loudOf_33 rfl hl (by decide) rfl (fun ls hl => ?_)
      refine lv_iinc (v := (nI (ii + 1))) (lv' := [(3, .int (nI (ii + 1))), (2, .int v_23), (0, .ref h), (1, .int n)]) hx hb dX3_loudOf_34 hl (k := 1) rfl (nI_add ii 1) (by decide) rfl (fun ls hl => ?_)
      refine lv_goto (tgt := 4) hx hb dX3_loudOf_37 (by decide) ?_
      exact ih (v_23) _ _ _ ⟨lv_sub hl [0, 1, 2, 3] rfl, rfl, rfl, (lf_X3_loudOf_2 hhb hww hkk hii haf_0 e_18 e_19 c_20 e_22 e_23)⟩
  · rintro w_8 H locs ls ⟨hl, rfl, rfl, haf_0⟩
    refine lv_iload_n hx hb dX3_loudOf_4 rfl (lv_at hl 0 rfl) ?_
    refine lv_aload_n hx hb dX3_loudOf_5 rfl (lv_at hl 2 rfl) ?_
    refine va_get (D := (dC, dI)) (ci := 3) (v := .int (nI kk)) (C := RX3) (T := TX3) (N := 13) hx hb hts i_X3_loudOf_X3 hown hK hP 0 rfl rfl 7 (by decide) (hts _ mx_X3_loudOf_1) (fun _ h9 => h9) rfl dX3_loudOf_6 ?_
    refine lv_icmp_ge (tgt := 40) hx hb dX3_loudOf_9 (by decide) (fun _ => ?_) (fun c_ => absurd ((nI_leI (a := kk) (b := kk) (by omega) (by omega)).mpr (by omega)) c_)
    refine lv_iload_n hx hb dX3_loudOf_40 rfl (lv_at hl 1 rfl) ?_
    exact W.iret (v := w_8) hx hb hr (fun t ht hW => ⟨w_8, rfl, (lf_X3_loudOf_3 hhb hww hkk haf_0), ht⟩) (fun _ h => by cases h) dX3_loudOf_41
theorem lf_X3_tellOf_1 {hh : Nat} {ww : Nat} {kk : Nat} {g3 : Nat → Int32} {g4 : Nat → Int32} {g5 : Nat → Int32} {i : Nat} {n : Int32} {v_3 : Int32} (hhb : hh < 2000000000) (hww : ww ≤ 6) (hkk : kk ≤ 6) (hi : i < 6) (c_1 : ¬ (n = 0)) (c_2 : ¬ (n = 1)) (e_3 : v_3 = g4 i) : v_3 = (tlX g3 g4 g5 i n) := by
  simp only [tlX]; grind
theorem lf_X3_tellOf_2 {hh : Nat} {ww : Nat} {kk : Nat} {g3 : Nat → Int32} {g4 : Nat → Int32} {g5 : Nat → Int32} {i : Nat} {n : Int32} {v_4 : Int32} (hhb : hh < 2000000000) (hww : ww ≤ 6) (hkk : kk ≤ 6) (hi : i < 6) (c_1 : ¬ (n = 0)) (c_2 : n = 1) (e_4 : v_4 = g5 i) : v_4 = (tlX g3 g4 g5 i n) := by
  simp only [tlX]; grind
theorem lf_X3_tellOf_3 {hh : Nat} {ww : Nat} {kk : Nat} {g3 : Nat → Int32} {g4 : Nat → Int32} {g5 : Nat → Int32} {i : Nat} {n : Int32} (hhb : hh < 2000000000) (hww : ww ≤ 6) (hkk : kk ≤ 6) (hi : i < 6) (c_1 : n = 0) (f_5_0_0 : ¬ g5 i = 0) : (-1000000) = (tlX g3 g4 g5 i n) := by
  simp only [tlX]; grind
theorem lf_X3_tellOf_4 {hh : Nat} {ww : Nat} {kk : Nat} {g3 : Nat → Int32} {g4 : Nat → Int32} {g5 : Nat → Int32} {i : Nat} {n : Int32} {v_8 : Int32} (hhb : hh < 2000000000) (hww : ww ≤ 6) (hkk : kk ≤ 6) (hi : i < 6) (c_1 : n = 0) (f_5_1_0 : g5 i = 0) (e_8 : v_8 = g3 i) : v_8 = (tlX g3 g4 g5 i n) := by
  simp only [tlX]; grind
set_option maxHeartbeats 4000000 in
set_option maxRecDepth 100000 in
theorem r_X3_tellOf (l : Launch) (dC : Nat → ClassId) (dI : Nat → Nat → Nat) (cI cZ cL cJ : ClassId) (h : Nat) (v0 : Int32) (v1 : Int32) (v2 : Int32) (v3 : Int32) (v5 : Int32) (hh : Nat) (ww : Nat) (kk : Nat) (b1 : Nat) (b2 : Nat) (b3 : Nat) (b4 : Nat) (b5 : Nat) (g1 : Nat → Int32) (g2 : Nat → Int32) (g3 : Nat → Int32) (g4 : Nat → Int32) (g5 : Nat → Int32) (i : Nat) (n : Int32) (hhb : hh < 2000000000) (hww : ww ≤ 6) (hkk : kk ≤ 6) (hi : i < 6) : Met l yX3_tellOf wsX3_tellOf ({ frames := 1, cells := 0, slots := 0, locals := 21 }) (va_Pc [.ref h, .int (nI i), .int n] (fun U => va_P (dC, dI) vwCl [(xo_3_iiiiiiiirrrrr h v0 v1 v2 v3 (nI hh) v5 (nI ww) (nI kk) b1 b2 b3 b4 b5), (xI b1 cI 6 g1), (xI b2 cI 6 g2), (xI b3 cI 6 g3), (xI b4 cI 6 g4), (xI b5 cI 6 g5)] U.heap ∧ va_K (dC, dI) vwCl [(cI, .int), (cZ, .boolean), (cL, .object RX3), (cJ, .array .int)] U)) (vp_Si (fun r => r = (tlX g3 g4 g5 i n))) 0 0 (fun _ => False) := by
  refine Met.ofW (cc := cX3_tellOf) (maxL := 3) (ret := (some .int)) (by decide) rfl ?_
  intro p e s m args below meth c s₁ B hml hv
  obtain ⟨rfl, hP, hK⟩ := hv
  have hx := B.exec
  have hb := B.bytes
  have hr := B.returns
  have hts := atoms_spec (ws := wsX3_tellOf) B.pre
  have hown : s.vm.findClass RX3 = some m.cls := findClass_of_methodNamed B.named
  have hlocks := B.notSynchronized
  have hP : va_P (dC, dI) vwCl [(xo_3_iiiiiiiirrrrr h v0 v1 v2 v3 (nI hh) v5 (nI ww) (nI kk) b1 b2 b3 b4 b5), (xI b1 cI 6 g1), (xI b2 cI 6 g2), (xI b3 cI 6 g3), (xI b4 cI 6 g4), (xI b5 cI 6 g5)] s.heap := hP
  have hl := lv_entry ([.ref h, .int (nI i), .int n]) (n := 3) (Nat.le_of_ble_eq_true rfl)
  rw [lg_entry_eq]
  generalize (lg_sl ([.ref h, .int (nI i), .int n]) ++ List.replicate (3 - (lg_sl ([.ref h, .int (nI i), .int n])).length) Slot.unset).toArray = ls at hl ⊢
  have hl : lv_has ls 3 [(0, .ref h), (1, .int (nI i)), (2, .int n)] := hl
  refine lv_iload_n hx hb dX3_tellOf_0 rfl (lv_at hl 2 rfl) ?_
  refine lv_if_ne (tgt := 24) hx hb dX3_tellOf_1 (by decide) (fun c_1 => ?_) (fun c_1 => ?_)
  · skip
    refine lv_iload_n hx hb dX3_tellOf_24 rfl (lv_at hl 2 rfl) ?_
    refine lv_iconst (v := 1) hx hb dX3_tellOf_25 (by decide) ?_
    refine lv_icmp_ne (tgt := 38) hx hb dX3_tellOf_26 (by decide) (fun c_2 => ?_) (fun c_2 => ?_)
    · skip
      refine lv_aload_n hx hb dX3_tellOf_38 rfl (lv_at hl 0 rfl) ?_
      refine va_get (D := (dC, dI)) (ci := 3) (v := .ref b4) (C := RX3) (T := TX3) (N := 13) hx hb hts i_X3_tellOf_X3 hown hK hP 0 rfl rfl 11 (by decide) (hts _ mx_X3_tellOf_4) (fun _ h9 => h9) rfl dX3_tellOf_39 ?_
      refine lv_iload_n hx hb dX3_tellOf_42 rfl (lv_at hl 1 rfl) ?_
      refine va_iald hx hb hK hP 4 0 rfl rfl (vp_in_nI (by omega) (by omega)) dX3_tellOf_43 ?_
      refine lv_topi (fun v_3 e_3 => ?_)
      have e_3 : v_3 = g4 i := e_3.trans (congrArg g4 (nI_clamp (by omega)))
      exact W.iret (v := v_3) hx hb hr (fun t ht hW => ⟨v_3, rfl, (lf_X3_tellOf_1 hhb hww hkk hi c_1 c_2 e_3), ht⟩) (fun _ h => by cases h) dX3_tellOf_44
    · skip
      refine lv_aload_n hx hb dX3_tellOf_29 rfl (lv_at hl 0 rfl) ?_
      refine va_get (D := (dC, dI)) (ci := 3) (v := .ref b5) (C := RX3) (T := TX3) (N := 13) hx hb hts i_X3_tellOf_X3 hown hK hP 0 rfl rfl 12 (by decide) (hts _ mx_X3_tellOf_3) (fun _ h9 => h9) rfl dX3_tellOf_30 ?_
      refine lv_iload_n hx hb dX3_tellOf_33 rfl (lv_at hl 1 rfl) ?_
      refine va_iald hx hb hK hP 5 0 rfl rfl (vp_in_nI (by omega) (by omega)) dX3_tellOf_34 ?_
      refine lv_topi (fun v_4 e_4 => ?_)
      have e_4 : v_4 = g5 i := e_4.trans (congrArg g5 (nI_clamp (by omega)))
      refine lv_goto (tgt := 44) hx hb dX3_tellOf_35 (by decide) ?_
      exact W.iret (v := v_4) hx hb hr (fun t ht hW => ⟨v_4, rfl, (lf_X3_tellOf_2 hhb hww hkk hi c_1 c_2 e_4), ht⟩) (fun _ h => by cases h) dX3_tellOf_44
  · skip
    refine lv_aload_n hx hb dX3_tellOf_4 rfl (lv_at hl 0 rfl) ?_
    refine lv_iload_n hx hb dX3_tellOf_5 rfl (lv_at hl 1 rfl) ?_
    have hPc_5 := hP
    refine vp_callSi (W.runV (As := [.int (nI i)]) (rest := []) ⟨hx, hb, hml, hown, hts⟩ (r_X3_isLoose l dC dI cI cZ cL cJ h v0 v1 v2 v3 v5 hh ww kk b1 b2 b3 b4 b5 g1 g2 g3 g4 g5 i (hhb) (hww) (hkk) (hi)) (cwV 1 hts gX3_tellOf_X3_isLoose rfl rfl rfl (by decide +kernel) ⟨Nat.le_of_ble_eq_true rfl, Nat.le_of_ble_eq_true rfl⟩) (pvP 3 0 hK hP rfl rfl hPc_5) rfl rfl hl.1 rfl (lv_room (Nat.le_of_ble_eq_true rfl)) dX3_tellOf_6 ⟨Nat.le_of_ble_eq_true rfl, Nat.le_of_ble_eq_true rfl⟩) (fun r_5 h_5 => ?_)
    rcases h_5 with ⟨h_5, f_5_0_0⟩ | ⟨h_5, f_5_1_0⟩
    · subst h_5
      refine lv_if_eq (tgt := 21) hx hb dX3_tellOf_9 (by decide) (fun _ => ?_) (fun c_ => absurd (by decide) c_)
      refine lv_ldc (own := RX3) (v := (-1000000)) hx hb hown (hts _ mx_X3_tellOf_2) dX3_tellOf_21 ?_
      exact W.iret (v := (-1000000)) hx hb hr (fun t ht hW => ⟨(-1000000), rfl, (lf_X3_tellOf_3 hhb hww hkk hi c_1 f_5_0_0), ht⟩) (fun _ h => by cases h) dX3_tellOf_23
    · subst h_5
      refine lv_if_eq (tgt := 21) hx hb dX3_tellOf_9 (by decide) (fun c_ => absurd c_ (by decide)) (fun _ => ?_)
      refine lv_aload_n hx hb dX3_tellOf_12 rfl (lv_at hl 0 rfl) ?_
      refine va_get (D := (dC, dI)) (ci := 3) (v := .ref b3) (C := RX3) (T := TX3) (N := 13) hx hb hts i_X3_tellOf_X3 hown hK hP 0 rfl rfl 10 (by decide) (hts _ mx_X3_tellOf_1) (fun _ h9 => h9) rfl dX3_tellOf_13 ?_
      refine lv_iload_n hx hb dX3_tellOf_16 rfl (lv_at hl 1 rfl) ?_
      refine va_iald hx hb hK hP 3 0 rfl rfl (vp_in_nI (by omega) (by omega)) dX3_tellOf_17 ?_
      refine lv_topi (fun v_8 e_8 => ?_)
      have e_8 : v_8 = g3 i := e_8.trans (congrArg g3 (nI_clamp (by omega)))
      refine lv_goto (tgt := 23) hx hb dX3_tellOf_18 (by decide) ?_
      exact W.iret (v := v_8) hx hb hr (fun t ht hW => ⟨v_8, rfl, (lf_X3_tellOf_4 hhb hww hkk hi c_1 f_5_1_0 e_8), ht⟩) (fun _ h => by cases h) dX3_tellOf_23
theorem lf_X3_windOn_1 {hh : Nat} {ww : Nat} {kk : Nat} {g1 : Nat → Int32} {j : Nat} {z_3 : Nat} {v_4 : Int32} (hhb : hh < 2000000000) (hww : ww ≤ 6) (hkk : kk ≤ 6) (hj : j ≤ 100000000) (c_1 : 0 < ww) (hz_3 : z_3 < ww) (hze_3 : z_3 = (hh + j) % ww) (e_4 : v_4 = g1 z_3) : v_4 = (wdX g1 ww hh j) := by
  simp only [wdX]; grind
theorem lf_X3_windOn_2 {hh : Nat} {ww : Nat} {kk : Nat} {g1 : Nat → Int32} {j : Nat} (hhb : hh < 2000000000) (hww : ww ≤ 6) (hkk : kk ≤ 6) (hj : j ≤ 100000000) (c_1 : ¬ (0 < ww)) : 2 = (wdX g1 ww hh j) := by
  simp only [wdX]; grind
set_option maxHeartbeats 4000000 in
set_option maxRecDepth 100000 in
theorem r_X3_windOn (l : Launch) (dC : Nat → ClassId) (dI : Nat → Nat → Nat) (cI cZ cL cJ : ClassId) (h : Nat) (v0 : Int32) (v1 : Int32) (v2 : Int32) (v3 : Int32) (v5 : Int32) (hh : Nat) (ww : Nat) (kk : Nat) (b1 : Nat) (b2 : Nat) (b3 : Nat) (b4 : Nat) (b5 : Nat) (g1 : Nat → Int32) (g2 : Nat → Int32) (g3 : Nat → Int32) (g4 : Nat → Int32) (g5 : Nat → Int32) (j : Nat) (hhb : hh < 2000000000) (hww : ww ≤ 6) (hkk : kk ≤ 6) (hj : j ≤ 100000000) : Met l yX3_windOn wsX3_windOn ({ frames := 0, cells := 0, slots := 0, locals := 0 }) (va_Pc [.ref h, .int (nI j)] (fun U => va_P (dC, dI) vwCl [(xo_3_iiiiiiiirrrrr h v0 v1 v2 v3 (nI hh) v5 (nI ww) (nI kk) b1 b2 b3 b4 b5), (xI b1 cI 6 g1), (xI b2 cI 6 g2), (xI b3 cI 6 g3), (xI b4 cI 6 g4), (xI b5 cI 6 g5)] U.heap ∧ va_K (dC, dI) vwCl [(cI, .int), (cZ, .boolean), (cL, .object RX3), (cJ, .array .int)] U)) (vp_Si (fun r => r = (wdX g1 ww hh j))) 0 0 (fun _ => False) := by
  refine Met.ofW (cc := cX3_windOn) (maxL := 2) (ret := (some .int)) (by decide) rfl ?_
  intro p e s m args below meth c s₁ B hml hv
  obtain ⟨rfl, hP, hK⟩ := hv
  have hx := B.exec
  have hb := B.bytes
  have hr := B.returns
  have hts := atoms_spec (ws := wsX3_windOn) B.pre
  have hown : s.vm.findClass RX3 = some m.cls := findClass_of_methodNamed B.named
  have hlocks := B.notSynchronized
  have hP : va_P (dC, dI) vwCl [(xo_3_iiiiiiiirrrrr h v0 v1 v2 v3 (nI hh) v5 (nI ww) (nI kk) b1 b2 b3 b4 b5), (xI b1 cI 6 g1), (xI b2 cI 6 g2), (xI b3 cI 6 g3), (xI b4 cI 6 g4), (xI b5 cI 6 g5)] s.heap := hP
  have hl := lv_entry ([.ref h, .int (nI j)]) (n := 2) (Nat.le_of_ble_eq_true rfl)
  rw [lg_entry_eq]
  generalize (lg_sl ([.ref h, .int (nI j)]) ++ List.replicate (2 - (lg_sl ([.ref h, .int (nI j)])).length) Slot.unset).toArray = ls at hl ⊢
  have hl : lv_has ls 2 [(0, .ref h), (1, .int (nI j))] := hl
  refine lv_aload_n hx hb dX3_windOn_0 rfl (lv_at hl 0 rfl) ?_
  refine va_get (D := (dC, dI)) (ci := 3) (v := .int (nI ww)) (C := RX3) (T := TX3) (N := 13) hx hb hts i_X3_windOn_X3 hown hK hP 0 rfl rfl 6 (by decide) (hts _ mx_X3_windOn_1) (fun _ h9 => h9) rfl dX3_windOn_1 ?_
  refine lv_if_gt (tgt := 11) hx hb dX3_windOn_4 (by decide) (fun c_1 => ?_) (fun c_1 => ?_)
  · have c_1 : 0 < ww := (nI_ltI (a := 0) (b := ww) (by omega) (by omega)).mp c_1
    refine lv_aload_n hx hb dX3_windOn_11 rfl (lv_at hl 0 rfl) ?_
    refine va_get (D := (dC, dI)) (ci := 3) (v := .ref b1) (C := RX3) (T := TX3) (N := 13) hx hb hts i_X3_windOn_X3 hown hK hP 0 rfl rfl 8 (by decide) (hts _ mx_X3_windOn_2) (fun _ h9 => h9) rfl dX3_windOn_12 ?_
    refine lv_aload_n hx hb dX3_windOn_15 rfl (lv_at hl 0 rfl) ?_
    refine va_get (D := (dC, dI)) (ci := 3) (v := .int (nI hh)) (C := RX3) (T := TX3) (N := 13) hx hb hts i_X3_windOn_X3 hown hK hP 0 rfl rfl 4 (by decide) (hts _ mx_X3_windOn_3) (fun _ h9 => h9) rfl dX3_windOn_16 ?_
    refine lv_iload_n hx hb dX3_windOn_19 rfl (lv_at hl 1 rfl) ?_
    refine lv_iadd hx hb dX3_windOn_20 ?_
    refine lv_topi (fun v_2 e_2 => ?_)
    obtain rfl : v_2 = (nI (hh + j)) := (e_2).trans (nI_add hh j)
    refine lv_aload_n hx hb dX3_windOn_21 rfl (lv_at hl 0 rfl) ?_
    refine va_get (D := (dC, dI)) (ci := 3) (v := .int (nI ww)) (C := RX3) (T := TX3) (N := 13) hx hb hts i_X3_windOn_X3 hown hK hP 0 rfl rfl 6 (by decide) (hts _ mx_X3_windOn_1) (fun _ h9 => h9) rfl dX3_windOn_22 ?_
    refine lv_irem hx hb dX3_windOn_25 (nI_ne0 (by omega) (by omega)) ?_
    refine lv_topi (fun v_3 e_3 => ?_)
    obtain ⟨z_3, hz_3, hze_3, rfl⟩ : ∃ z : Nat, z < ww ∧ z = (hh + j) % ww ∧ v_3 = nI z := ⟨(hh + j) % ww, Nat.mod_lt _ (by omega), rfl, e_3.trans (pk_rem (a := (hh + j)) (d := ww) (by omega) (by omega) (by omega))⟩
    refine va_iald hx hb hK hP 1 0 rfl rfl (vp_in_nI (by omega) (by omega)) dX3_windOn_26 ?_
    refine lv_topi (fun v_4 e_4 => ?_)
    have e_4 : v_4 = g1 z_3 := e_4.trans (congrArg g1 (nI_clamp (by omega)))
    exact W.iret (v := v_4) hx hb hr (fun t ht hW => ⟨v_4, rfl, (lf_X3_windOn_1 hhb hww hkk hj c_1 hz_3 hze_3 e_4), ht⟩) (fun _ h => by cases h) dX3_windOn_27
  · have c_1 : ¬ (0 < ww) := fun q_ => c_1 ((nI_ltI (a := 0) (b := ww) (by omega) (by omega)).mpr q_)
    refine lv_iconst (v := 2) hx hb dX3_windOn_7 (by decide) ?_
    refine lv_goto (tgt := 27) hx hb dX3_windOn_8 (by decide) ?_
    exact W.iret (v := 2) hx hb hr (fun t ht hW => ⟨2, rfl, (lf_X3_windOn_2 hhb hww hkk hj c_1), ht⟩) (fun _ h => by cases h) dX3_windOn_27
theorem lf_X3_driftOf_1 {hh : Nat} {ww : Nat} {kk : Nat} {g2 : Nat → Int32} {i : Nat} {n : Int32} {v_1 : Int32} (hhb : hh < 2000000000) (hww : ww ≤ 6) (hkk : kk ≤ 6) (hi : i < 6) (e_1 : v_1 = (n - 2)) (e_2 : (1 : Int32) = g2 i) : v_1 = (dfX (g2 i) (n - 2)) := by
  simp only [dfX]; grind
theorem lf_X3_driftOf_2 {hh : Nat} {ww : Nat} {kk : Nat} {g2 : Nat → Int32} {i : Nat} {n : Int32} {v_1 : Int32} {v_5 : Int32} (hhb : hh < 2000000000) (hww : ww ≤ 6) (hkk : kk ≤ 6) (hi : i < 6) (e_1 : v_1 = (n - 2)) (e_2 : (2 : Int32) = g2 i) (k_3 : ¬ (2 : Int32) = 1) (e_5 : v_5 = (v_1 / 2)) : v_5 = (dfX (g2 i) (n - 2)) := by
  simp only [dfX]; grind
theorem lf_X3_driftOf_3 {hh : Nat} {ww : Nat} {kk : Nat} {g2 : Nat → Int32} {i : Nat} {n : Int32} {v_1 : Int32} {v_7 : Int32} (hhb : hh < 2000000000) (hww : ww ≤ 6) (hkk : kk ≤ 6) (hi : i < 6) (e_1 : v_1 = (n - 2)) (e_2 : (3 : Int32) = g2 i) (k_3 : ¬ (3 : Int32) = 1) (k_4 : ¬ (3 : Int32) = 2) (e_7 : v_7 = (v_1 * 2)) : v_7 = (dfX (g2 i) (n - 2)) := by
  simp only [dfX]; grind
theorem lf_X3_driftOf_4 {hh : Nat} {ww : Nat} {kk : Nat} {g2 : Nat → Int32} {i : Nat} {n : Int32} {v_1 : Int32} {v_9 : Int32} (hhb : hh < 2000000000) (hww : ww ≤ 6) (hkk : kk ≤ 6) (hi : i < 6) (e_1 : v_1 = (n - 2)) (e_2 : (4 : Int32) = g2 i) (k_3 : ¬ (4 : Int32) = 1) (k_4 : ¬ (4 : Int32) = 2) (k_6 : ¬ (4 : Int32) = 3) (e_9 : v_9 = (-v_1)) : v_9 = (dfX (g2 i) (n - 2)) := by
  simp only [dfX]; grind
theorem lf_X3_driftOf_5 {hh : Nat} {ww : Nat} {kk : Nat} {g2 : Nat → Int32} {i : Nat} {n : Int32} {v_1 : Int32} {v_2 : Int32} (hhb : hh < 2000000000) (hww : ww ≤ 6) (hkk : kk ≤ 6) (hi : i < 6) (e_1 : v_1 = (n - 2)) (e_2 : v_2 = g2 i) (k_3 : ¬ v_2 = 1) (k_4 : ¬ v_2 = 2) (k_6 : ¬ v_2 = 3) (k_8 : ¬ v_2 = 4) : 0 = (dfX (g2 i) (n - 2)) := by
  simp only [dfX]; grind
set_option maxHeartbeats 4000000 in
set_option maxRecDepth 100000 in
theorem r_X3_driftOf (l : Launch) (dC : Nat → ClassId) (dI : Nat → Nat → Nat) (cI cZ cL cJ : ClassId) (h : Nat) (v0 : Int32) (v1 : Int32) (v2 : Int32) (v3 : Int32) (v5 : Int32) (hh : Nat) (ww : Nat) (kk : Nat) (b1 : Nat) (b2 : Nat) (b3 : Nat) (b4 : Nat) (b5 : Nat) (g1 : Nat → Int32) (g2 : Nat → Int32) (g3 : Nat → Int32) (g4 : Nat → Int32) (g5 : Nat → Int32) (i : Nat) (n : Int32) (hhb : hh < 2000000000) (hww : ww ≤ 6) (hkk : kk ≤ 6) (hi : i < 6) : Met l yX3_driftOf wsX3_driftOf ({ frames := 0, cells := 0, slots := 0, locals := 0 }) (va_Pc [.ref h, .int (nI i), .int n] (fun U => va_P (dC, dI) vwCl [(xo_3_iiiiiiiirrrrr h v0 v1 v2 v3 (nI hh) v5 (nI ww) (nI kk) b1 b2 b3 b4 b5), (xI b1 cI 6 g1), (xI b2 cI 6 g2), (xI b3 cI 6 g3), (xI b4 cI 6 g4), (xI b5 cI 6 g5)] U.heap ∧ va_K (dC, dI) vwCl [(cI, .int), (cZ, .boolean), (cL, .object RX3), (cJ, .array .int)] U)) (vp_Si (fun r => r = (dfX (g2 i) (n - 2)))) 0 0 (fun _ => False) := by
  refine Met.ofW (cc := cX3_driftOf) (maxL := 4) (ret := (some .int)) (by decide) rfl ?_
  intro p e s m args below meth c s₁ B hml hv
  obtain ⟨rfl, hP, hK⟩ := hv
  have hx := B.exec
  have hb := B.bytes
  have hr := B.returns
  have hts := atoms_spec (ws := wsX3_driftOf) B.pre
  have hown : s.vm.findClass RX3 = some m.cls := findClass_of_methodNamed B.named
  have hlocks := B.notSynchronized
  have hP : va_P (dC, dI) vwCl [(xo_3_iiiiiiiirrrrr h v0 v1 v2 v3 (nI hh) v5 (nI ww) (nI kk) b1 b2 b3 b4 b5), (xI b1 cI 6 g1), (xI b2 cI 6 g2), (xI b3 cI 6 g3), (xI b4 cI 6 g4), (xI b5 cI 6 g5)] s.heap := hP
  have hl := lv_entry ([.ref h, .int (nI i), .int n]) (n := 4) (Nat.le_of_ble_eq_true rfl)
  rw [lg_entry_eq]
  generalize (lg_sl ([.ref h, .int (nI i), .int n]) ++ List.replicate (4 - (lg_sl ([.ref h, .int (nI i), .int n])).length) Slot.unset).toArray = ls at hl ⊢
  have hl : lv_has ls 4 [(0, .ref h), (1, .int (nI i)), (2, .int n)] := hl
  refine lv_iload_n hx hb dX3_driftOf_0 rfl (lv_at hl 2 rfl) ?_
  refine lv_iconst (v := 2) hx hb dX3_driftOf_1 (by decide) ?_
  refine lv_isub hx hb dX3_driftOf_2 ?_
  refine lv_topi (fun v_1 e_1 => ?_)
  refine lv_istore_n (lv' := [(3, .int v_1), (0, .ref h), (1, .int (nI i)), (2, .int n)]) hx hb dX3_driftOf_3 rfl hl (by decide) rfl (fun ls hl => ?_)
  refine lv_aload_n hx hb dX3_driftOf_4 rfl (lv_at hl 1 rfl) ?_
  refine va_get (D := (dC, dI)) (ci := 3) (v := .ref b2) (C := RX3) (T := TX3) (N := 13) hx hb hts i_X3_driftOf_X3 hown hK hP 0 rfl rfl 9 (by decide) (hts _ mx_X3_driftOf_1) (fun _ h9 => h9) rfl dX3_driftOf_5 ?_
  refine lv_iload_n hx hb dX3_driftOf_8 rfl (lv_at hl 2 rfl) ?_
  refine va_iald hx hb hK hP 2 0 rfl rfl (vp_in_nI (by omega) (by omega)) dX3_driftOf_9 ?_
  refine lv_topi (fun v_2 e_2 => ?_)
  have e_2 : v_2 = g2 i := e_2.trans (congrArg g2 (nI_clamp (by omega)))
  by_cases k_3 : v_2 = 1
  · subst k_3
    refine lv_tableIn (off := 30) (tgt := 40) hx hb dX3_driftOf_10 (by decide) (by decide) (by decide) (by decide) ?_
    refine lv_iload_n hx hb dX3_driftOf_40 rfl (lv_at hl 0 rfl) ?_
    exact W.iret (v := v_1) hx hb hr (fun t ht hW => ⟨v_1, rfl, (lf_X3_driftOf_1 hhb hww hkk hi e_1 e_2), ht⟩) (fun _ h => by cases h) dX3_driftOf_41
  by_cases k_4 : v_2 = 2
  · subst k_4
    refine lv_tableIn (off := 32) (tgt := 42) hx hb dX3_driftOf_10 (by decide) (by decide) (by decide) (by decide) ?_
    refine lv_iload_n hx hb dX3_driftOf_42 rfl (lv_at hl 0 rfl) ?_
    refine lv_iconst (v := 2) hx hb dX3_driftOf_43 (by decide) ?_
    refine lv_idiv hx hb dX3_driftOf_44 (by decide) ?_
    refine lv_topi (fun v_5 e_5 => ?_)
    exact W.iret (v := v_5) hx hb hr (fun t ht hW => ⟨v_5, rfl, (lf_X3_driftOf_2 hhb hww hkk hi e_1 e_2 k_3 e_5), ht⟩) (fun _ h => by cases h) dX3_driftOf_45
  by_cases k_6 : v_2 = 3
  · subst k_6
    refine lv_tableIn (off := 36) (tgt := 46) hx hb dX3_driftOf_10 (by decide) (by decide) (by decide) (by decide) ?_
    refine lv_iload_n hx hb dX3_driftOf_46 rfl (lv_at hl 0 rfl) ?_
    refine lv_iconst (v := 2) hx hb dX3_driftOf_47 (by decide) ?_
    refine lv_imul hx hb dX3_driftOf_48 ?_
    refine lv_topi (fun v_7 e_7 => ?_)
    exact W.iret (v := v_7) hx hb hr (fun t ht hW => ⟨v_7, rfl, (lf_X3_driftOf_3 hhb hww hkk hi e_1 e_2 k_3 k_4 e_7), ht⟩) (fun _ h => by cases h) dX3_driftOf_49
  by_cases k_8 : v_2 = 4
  · subst k_8
    refine lv_tableIn (off := 40) (tgt := 50) hx hb dX3_driftOf_10 (by decide) (by decide) (by decide) (by decide) ?_
    refine lv_iload_n hx hb dX3_driftOf_50 rfl (lv_at hl 0 rfl) ?_
    refine lv_ineg hx hb dX3_driftOf_51 ?_
    refine lv_topi (fun v_9 e_9 => ?_)
    exact W.iret (v := v_9) hx hb hr (fun t ht hW => ⟨v_9, rfl, (lf_X3_driftOf_4 hhb hww hkk hi e_1 e_2 k_3 k_4 k_6 e_9), ht⟩) (fun _ h => by cases h) dX3_driftOf_52
  have kT_3 := lv_neT k_3 (show (1 : Int32).toInt = 1 from rfl)
  have kT_4 := lv_neT k_4 (show (2 : Int32).toInt = 2 from rfl)
  have kT_6 := lv_neT k_6 (show (3 : Int32).toInt = 3 from rfl)
  have kT_8 := lv_neT k_8 (show (4 : Int32).toInt = 4 from rfl)
  refine lv_tableOut (tgt := 53) hx hb dX3_driftOf_10 (by omega) (by decide) ?_
  refine lv_iconst (v := 0) hx hb dX3_driftOf_53 (by decide) ?_
  exact W.iret (v := 0) hx hb hr (fun t ht hW => ⟨0, rfl, (lf_X3_driftOf_5 hhb hww hkk hi e_1 e_2 k_3 k_4 k_6 k_8), ht⟩) (fun _ h => by cases h) dX3_driftOf_54
theorem lf_X3_loudBehindHour_1 {hh : Nat} {ww : Nat} {kk : Nat} {g2 : Nat → Int32} {g4 : Nat → Int32} {i : Nat} {v_3 : Int32} {v_4 : Int32} (hhb : hh < 2000000000) (hww : ww ≤ 6) (hkk : kk ≤ 6) (hi : i < 6) (e_1 : (4 : Int32) = g2 i) (e_3 : v_3 = g4 i) (e_4 : v_4 = (v_3 - 1)) : v_4 = (lbX (g2 i) (g4 i)) := by
  simp only [lbX]; grind
theorem lf_X3_loudBehindHour_2 {hh : Nat} {ww : Nat} {kk : Nat} {g2 : Nat → Int32} {g4 : Nat → Int32} {i : Nat} {v_6 : Int32} {v_7 : Int32} {v_8 : Int32} (hhb : hh < 2000000000) (hww : ww ≤ 6) (hkk : kk ≤ 6) (hi : i < 6) (e_1 : (5 : Int32) = g2 i) (k_2 : ¬ (5 : Int32) = 4) (e_6 : v_6 = g4 i) (e_7 : v_7 = (v_6 + 1)) (e_8 : v_8 = (if 20 < v_7 then 20 else v_7)) : v_8 = (lbX (g2 i) (g4 i)) := by
  simp only [lbX]; grind
theorem lf_X3_loudBehindHour_3 {hh : Nat} {ww : Nat} {kk : Nat} {g2 : Nat → Int32} {g4 : Nat → Int32} {i : Nat} {v_1 : Int32} {v_9 : Int32} (hhb : hh < 2000000000) (hww : ww ≤ 6) (hkk : kk ≤ 6) (hi : i < 6) (e_1 : v_1 = g2 i) (k_2 : ¬ v_1 = 4) (k_5 : ¬ v_1 = 5) (e_9 : v_9 = g4 i) : v_9 = (lbX (g2 i) (g4 i)) := by
  simp only [lbX]; grind
set_option maxHeartbeats 4000000 in
set_option maxRecDepth 100000 in
theorem r_X3_loudBehindHour (l : Launch) (dC : Nat → ClassId) (dI : Nat → Nat → Nat) (cI cZ cL cJ : ClassId) (h : Nat) (v0 : Int32) (v1 : Int32) (v2 : Int32) (v3 : Int32) (v5 : Int32) (hh : Nat) (ww : Nat) (kk : Nat) (b1 : Nat) (b2 : Nat) (b3 : Nat) (b4 : Nat) (b5 : Nat) (g1 : Nat → Int32) (g2 : Nat → Int32) (g3 : Nat → Int32) (g4 : Nat → Int32) (g5 : Nat → Int32) (i : Nat) (hhb : hh < 2000000000) (hww : ww ≤ 6) (hkk : kk ≤ 6) (hi : i < 6) : Met l yX3_loudBehindHour wsX3_loudBehindHour ({ frames := 1, cells := 0, slots := 0, locals := 21 }) (va_Pc [.ref h, .int (nI i)] (fun U => va_P (dC, dI) vwCl [(xo_3_iiiiiiiirrrrr h v0 v1 v2 v3 (nI hh) v5 (nI ww) (nI kk) b1 b2 b3 b4 b5), (xI b1 cI 6 g1), (xI b2 cI 6 g2), (xI b3 cI 6 g3), (xI b4 cI 6 g4), (xI b5 cI 6 g5)] U.heap ∧ va_K (dC, dI) vwCl [(cI, .int), (cZ, .boolean), (cL, .object RX3), (cJ, .array .int)] U)) (vp_Si (fun r => r = (lbX (g2 i) (g4 i)))) 0 0 (fun _ => False) := by
  refine Met.ofW (cc := cX3_loudBehindHour) (maxL := 2) (ret := (some .int)) (by decide) rfl ?_
  intro p e s m args below meth c s₁ B hml hv
  obtain ⟨rfl, hP, hK⟩ := hv
  have hx := B.exec
  have hb := B.bytes
  have hr := B.returns
  have hts := atoms_spec (ws := wsX3_loudBehindHour) B.pre
  have hown : s.vm.findClass RX3 = some m.cls := findClass_of_methodNamed B.named
  have hlocks := B.notSynchronized
  have hP : va_P (dC, dI) vwCl [(xo_3_iiiiiiiirrrrr h v0 v1 v2 v3 (nI hh) v5 (nI ww) (nI kk) b1 b2 b3 b4 b5), (xI b1 cI 6 g1), (xI b2 cI 6 g2), (xI b3 cI 6 g3), (xI b4 cI 6 g4), (xI b5 cI 6 g5)] s.heap := hP
  have hl := lv_entry ([.ref h, .int (nI i)]) (n := 2) (Nat.le_of_ble_eq_true rfl)
  rw [lg_entry_eq]
  generalize (lg_sl ([.ref h, .int (nI i)]) ++ List.replicate (2 - (lg_sl ([.ref h, .int (nI i)])).length) Slot.unset).toArray = ls at hl ⊢
  have hl : lv_has ls 2 [(0, .ref h), (1, .int (nI i))] := hl
  refine lv_aload_n hx hb dX3_loudBehindHour_0 rfl (lv_at hl 0 rfl) ?_
  refine va_get (D := (dC, dI)) (ci := 3) (v := .ref b2) (C := RX3) (T := TX3) (N := 13) hx hb hts i_X3_loudBehindHour_X3 hown hK hP 0 rfl rfl 9 (by decide) (hts _ mx_X3_loudBehindHour_1) (fun _ h9 => h9) rfl dX3_loudBehindHour_1 ?_
  refine lv_iload_n hx hb dX3_loudBehindHour_4 rfl (lv_at hl 1 rfl) ?_
  refine va_iald hx hb hK hP 2 0 rfl rfl (vp_in_nI (by omega) (by omega)) dX3_loudBehindHour_5 ?_
  refine lv_topi (fun v_1 e_1 => ?_)
  have e_1 : v_1 = g2 i := e_1.trans (congrArg g2 (nI_clamp (by omega)))
  by_cases k_2 : v_1 = 4
  · subst k_2
    refine lv_lookup (off := 26) (tgt := 32) hx hb dX3_loudBehindHour_6 (by decide) (by decide) (by decide) ?_
    refine lv_aload_n hx hb dX3_loudBehindHour_32 rfl (lv_at hl 0 rfl) ?_
    refine va_get (D := (dC, dI)) (ci := 3) (v := .ref b4) (C := RX3) (T := TX3) (N := 13) hx hb hts i_X3_loudBehindHour_X3 hown hK hP 0 rfl rfl 11 (by decide) (hts _ mx_X3_loudBehindHour_2) (fun _ h9 => h9) rfl dX3_loudBehindHour_33 ?_
    refine lv_iload_n hx hb dX3_loudBehindHour_36 rfl (lv_at hl 1 rfl) ?_
    refine va_iald hx hb hK hP 4 0 rfl rfl (vp_in_nI (by omega) (by omega)) dX3_loudBehindHour_37 ?_
    refine lv_topi (fun v_3 e_3 => ?_)
    have e_3 : v_3 = g4 i := e_3.trans (congrArg g4 (nI_clamp (by omega)))
    refine lv_iconst (v := 1) hx hb dX3_loudBehindHour_38 (by decide) ?_
    refine lv_isub hx hb dX3_loudBehindHour_39 ?_
    refine lv_topi (fun v_4 e_4 => ?_)
    exact W.iret (v := v_4) hx hb hr (fun t ht hW => ⟨v_4, rfl, (lf_X3_loudBehindHour_1 hhb hww hkk hi e_1 e_3 e_4), ht⟩) (fun _ h => by cases h) dX3_loudBehindHour_40
  by_cases k_5 : v_1 = 5
  · subst k_5
    refine lv_lookup (off := 35) (tgt := 41) hx hb dX3_loudBehindHour_6 (by decide) (by decide) (by decide) ?_
    refine lv_aload_n hx hb dX3_loudBehindHour_41 rfl (lv_at hl 0 rfl) ?_
    refine va_get (D := (dC, dI)) (ci := 3) (v := .ref b4) (C := RX3) (T := TX3) (N := 13) hx hb hts i_X3_loudBehindHour_X3 hown hK hP 0 rfl rfl 11 (by decide) (hts _ mx_X3_loudBehindHour_2) (fun _ h9 => h9) rfl dX3_loudBehindHour_42 ?_
    refine lv_iload_n hx hb dX3_loudBehindHour_45 rfl (lv_at hl 1 rfl) ?_
    refine va_iald hx hb hK hP 4 0 rfl rfl (vp_in_nI (by omega) (by omega)) dX3_loudBehindHour_46 ?_
    refine lv_topi (fun v_6 e_6 => ?_)
    have e_6 : v_6 = g4 i := e_6.trans (congrArg g4 (nI_clamp (by omega)))
    refine lv_iconst (v := 1) hx hb dX3_loudBehindHour_47 (by decide) ?_
    refine lv_iadd hx hb dX3_loudBehindHour_48 ?_
    refine lv_topi (fun v_7 e_7 => ?_)
    refine lv_bipush (v := 20) hx hb dX3_loudBehindHour_49 (by decide) ?_
    refine va_mmin hx hb (by rw [hml]; exact hl.1.symm) hown (hts _ mx_X3_loudBehindHour_3) (hts _ mx_X3_loudBehindHour_4) (hts _ mx_X3_loudBehindHour_5) (hts _ mx_X3_loudBehindHour_6) (Nat.le_of_ble_eq_true rfl) (Nat.le_of_ble_eq_true rfl) (Nat.zero_le _) (Nat.zero_le _) dX3_loudBehindHour_51 ?_
    refine lv_topi (fun v_8 e_8 => ?_)
    exact W.iret (v := v_8) hx hb hr (fun t ht hW => ⟨v_8, rfl, (lf_X3_loudBehindHour_2 hhb hww hkk hi e_1 k_2 e_6 e_7 e_8), ht⟩) (fun _ h => by cases h) dX3_loudBehindHour_54
  refine lv_lookup (off := 49) (tgt := 55) hx hb dX3_loudBehindHour_6 (by decide) ((lv_osw k_2 rfl).trans ( (lv_osw k_5 rfl).trans (rfl))) (by decide) ?_
  refine lv_aload_n hx hb dX3_loudBehindHour_55 rfl (lv_at hl 0 rfl) ?_
  refine va_get (D := (dC, dI)) (ci := 3) (v := .ref b4) (C := RX3) (T := TX3) (N := 13) hx hb hts i_X3_loudBehindHour_X3 hown hK hP 0 rfl rfl 11 (by decide) (hts _ mx_X3_loudBehindHour_2) (fun _ h9 => h9) rfl dX3_loudBehindHour_56 ?_
  refine lv_iload_n hx hb dX3_loudBehindHour_59 rfl (lv_at hl 1 rfl) ?_
  refine va_iald hx hb hK hP 4 0 rfl rfl (vp_in_nI (by omega) (by omega)) dX3_loudBehindHour_60 ?_
  refine lv_topi (fun v_9 e_9 => ?_)
  have e_9 : v_9 = g4 i := e_9.trans (congrArg g4 (nI_clamp (by omega)))
  exact W.iret (v := v_9) hx hb hr (fun t ht hW => ⟨v_9, rfl, (lf_X3_loudBehindHour_3 hhb hww hkk hi e_1 k_2 k_5 e_9), ht⟩) (fun _ h => by cases h) dX3_loudBehindHour_61
theorem lf_X3_grindsAt_1 {v1 : Int32} {v2 : Int32} {v3 : Int32} {hh : Nat} {ww : Nat} {kk : Nat} {n : Int32} {k : Int32} {v_2 : Int32} (hhb : hh < 2000000000) (hww : ww ≤ 6) (hkk : kk ≤ 6) (c_1 : ¬ (v3 = 1)) (e_2 : v_2 = (v1 - n)) (c_3 : k = 2) : ¬ grX v1 v2 v3 n k := by
  simp only [grX, frX]; grind
theorem lf_X3_grindsAt_2 {v1 : Int32} {v2 : Int32} {v3 : Int32} {hh : Nat} {ww : Nat} {kk : Nat} {n : Int32} {k : Int32} {v_2 : Int32} (hhb : hh < 2000000000) (hww : ww ≤ 6) (hkk : kk ≤ 6) (c_1 : ¬ (v3 = 1)) (e_2 : v_2 = (v1 - n)) (c_3 : ¬ (k = 2)) (c_4 : v_2 < 0) : ¬ grX v1 v2 v3 n k := by
  simp only [grX, frX]; grind
theorem lf_X3_grindsAt_3 {v1 : Int32} {v2 : Int32} {v3 : Int32} {hh : Nat} {ww : Nat} {kk : Nat} {n : Int32} {k : Int32} {v_2 : Int32} (hhb : hh < 2000000000) (hww : ww ≤ 6) (hkk : kk ≤ 6) (c_1 : ¬ (v3 = 1)) (e_2 : v_2 = (v1 - n)) (c_3 : ¬ (k = 2)) (c_4 : ¬ (v_2 < 0)) (c_5 : v2 < v_2) : ¬ grX v1 v2 v3 n k := by
  simp only [grX, frX]; grind
theorem lf_X3_grindsAt_4 {v1 : Int32} {v2 : Int32} {v3 : Int32} {hh : Nat} {ww : Nat} {kk : Nat} {n : Int32} {k : Int32} {v_2 : Int32} (hhb : hh < 2000000000) (hww : ww ≤ 6) (hkk : kk ≤ 6) (c_1 : ¬ (v3 = 1)) (e_2 : v_2 = (v1 - n)) (c_3 : ¬ (k = 2)) (c_4 : ¬ (v_2 < 0)) (c_5 : ¬ (v2 < v_2)) : grX v1 v2 v3 n k := by
  simp only [grX, frX]; grind
theorem lf_X3_grindsAt_5 {v1 : Int32} {v2 : Int32} {v3 : Int32} {hh : Nat} {ww : Nat} {kk : Nat} {n : Int32} {k : Int32} {v_6 : Int32} (hhb : hh < 2000000000) (hww : ww ≤ 6) (hkk : kk ≤ 6) (c_1 : v3 = 1) (e_6 : v_6 = (n - v1)) (c_7 : k = 2) : ¬ grX v1 v2 v3 n k := by
  simp only [grX, frX]; grind
theorem lf_X3_grindsAt_6 {v1 : Int32} {v2 : Int32} {v3 : Int32} {hh : Nat} {ww : Nat} {kk : Nat} {n : Int32} {k : Int32} {v_6 : Int32} (hhb : hh < 2000000000) (hww : ww ≤ 6) (hkk : kk ≤ 6) (c_1 : v3 = 1) (e_6 : v_6 = (n - v1)) (c_7 : ¬ (k = 2)) (c_8 : v_6 < 0) : ¬ grX v1 v2 v3 n k := by
  simp only [grX, frX]; grind
theorem lf_X3_grindsAt_7 {v1 : Int32} {v2 : Int32} {v3 : Int32} {hh : Nat} {ww : Nat} {kk : Nat} {n : Int32} {k : Int32} {v_6 : Int32} (hhb : hh < 2000000000) (hww : ww ≤ 6) (hkk : kk ≤ 6) (c_1 : v3 = 1) (e_6 : v_6 = (n - v1)) (c_7 : ¬ (k = 2)) (c_8 : ¬ (v_6 < 0)) (c_9 : v2 < v_6) : ¬ grX v1 v2 v3 n k := by
  simp only [grX, frX]; grind
theorem lf_X3_grindsAt_8 {v1 : Int32} {v2 : Int32} {v3 : Int32} {hh : Nat} {ww : Nat} {kk : Nat} {n : Int32} {k : Int32} {v_6 : Int32} (hhb : hh < 2000000000) (hww : ww ≤ 6) (hkk : kk ≤ 6) (c_1 : v3 = 1) (e_6 : v_6 = (n - v1)) (c_7 : ¬ (k = 2)) (c_8 : ¬ (v_6 < 0)) (c_9 : ¬ (v2 < v_6)) : grX v1 v2 v3 n k := by
  simp only [grX, frX]; grind
set_option maxHeartbeats 4000000 in
set_option maxRecDepth 100000 in
theorem r_X3_grindsAt (l : Launch) (dC : Nat → ClassId) (dI : Nat → Nat → Nat) (cI cZ cL cJ : ClassId) (h : Nat) (v0 : Int32) (v1 : Int32) (v2 : Int32) (v3 : Int32) (v5 : Int32) (hh : Nat) (ww : Nat) (kk : Nat) (b1 : Nat) (b2 : Nat) (b3 : Nat) (b4 : Nat) (b5 : Nat) (g1 : Nat → Int32) (g2 : Nat → Int32) (g3 : Nat → Int32) (g4 : Nat → Int32) (g5 : Nat → Int32) (n : Int32) (k : Int32) (hhb : hh < 2000000000) (hww : ww ≤ 6) (hkk : kk ≤ 6) : Met l yX3_grindsAt wsX3_grindsAt ({ frames := 0, cells := 0, slots := 0, locals := 0 }) (va_Pc [.ref h, .int n, .int k] (fun U => va_P (dC, dI) vwCl [(xo_3_iiiiiiiirrrrr h v0 v1 v2 v3 (nI hh) v5 (nI ww) (nI kk) b1 b2 b3 b4 b5), (xI b1 cI 6 g1), (xI b2 cI 6 g2), (xI b3 cI 6 g3), (xI b4 cI 6 g4), (xI b5 cI 6 g5)] U.heap ∧ va_K (dC, dI) vwCl [(cI, .int), (cZ, .boolean), (cL, .object RX3), (cJ, .array .int)] U)) (vp_Si (fun r => (r = 0 ∧ ¬ grX v1 v2 v3 n k) ∨ (r = 1 ∧ grX v1 v2 v3 n k))) 0 0 (fun _ => False) := by
  refine Met.ofW (cc := cX3_grindsAt) (maxL := 4) (ret := (some .boolean)) (by decide) rfl ?_
  intro p e s m args below meth c s₁ B hml hv
  obtain ⟨rfl, hP, hK⟩ := hv
  have hx := B.exec
  have hb := B.bytes
  have hr := B.returns
  have hts := atoms_spec (ws := wsX3_grindsAt) B.pre
  have hown : s.vm.findClass RX3 = some m.cls := findClass_of_methodNamed B.named
  have hlocks := B.notSynchronized
  have hP : va_P (dC, dI) vwCl [(xo_3_iiiiiiiirrrrr h v0 v1 v2 v3 (nI hh) v5 (nI ww) (nI kk) b1 b2 b3 b4 b5), (xI b1 cI 6 g1), (xI b2 cI 6 g2), (xI b3 cI 6 g3), (xI b4 cI 6 g4), (xI b5 cI 6 g5)] s.heap := hP
  have hl := lv_entry ([.ref h, .int n, .int k]) (n := 4) (Nat.le_of_ble_eq_true rfl)
  rw [lg_entry_eq]
  generalize (lg_sl ([.ref h, .int n, .int k]) ++ List.replicate (4 - (lg_sl ([.ref h, .int n, .int k])).length) Slot.unset).toArray = ls at hl ⊢
  have hl : lv_has ls 4 [(0, .ref h), (1, .int n), (2, .int k)] := hl
  refine lv_aload_n hx hb dX3_grindsAt_0 rfl (lv_at hl 0 rfl) ?_
  refine va_get (D := (dC, dI)) (ci := 3) (v := .int v3) (C := RX3) (T := TX3) (N := 13) hx hb hts i_X3_grindsAt_X3 hown hK hP 0 rfl rfl 3 (by decide) (hts _ mx_X3_grindsAt_1) (fun _ h9 => h9) rfl dX3_grindsAt_1 ?_
  refine lv_iconst (v := 1) hx hb dX3_grindsAt_4 (by decide) ?_
  refine lv_icmp_ne (tgt := 17) hx hb dX3_grindsAt_5 (by decide) (fun c_1 => ?_) (fun c_1 => ?_)
  · skip
    refine lv_aload_n hx hb dX3_grindsAt_17 rfl (lv_at hl 0 rfl) ?_
    refine va_get (D := (dC, dI)) (ci := 3) (v := .int v1) (C := RX3) (T := TX3) (N := 13) hx hb hts i_X3_grindsAt_X3 hown hK hP 0 rfl rfl 1 (by decide) (hts _ mx_X3_grindsAt_2) (fun _ h9 => h9) rfl dX3_grindsAt_18 ?_
    refine lv_iload_n hx hb dX3_grindsAt_21 rfl (lv_at hl 1 rfl) ?_
    refine lv_isub hx hb dX3_grindsAt_22 ?_
    refine lv_topi (fun v_2 e_2 => ?_)
    refine lv_istore_n (lv' := [(3, .int v_2), (0, .ref h), (1, .int n), (2, .int k)]) hx hb dX3_grindsAt_23 rfl hl (by decide) rfl (fun ls hl => ?_)
    refine lv_iload_n hx hb dX3_grindsAt_24 rfl (lv_at hl 3 rfl) ?_
    refine lv_iconst (v := 2) hx hb dX3_grindsAt_25 (by decide) ?_
    refine lv_icmp_eq (tgt := 45) hx hb dX3_grindsAt_26 (by decide) (fun c_3 => ?_) (fun c_3 => ?_)
    · skip
      refine lv_iconst (v := 0) hx hb dX3_grindsAt_45 (by decide) ?_
      exact W.zret (v := 0) hx hb hr (by decide) (fun t ht hW => ⟨0, rfl, Or.inl (⟨rfl, (lf_X3_grindsAt_1 hhb hww hkk c_1 e_2 c_3)⟩), ht⟩) (fun _ h => by cases h) dX3_grindsAt_46
    · skip
      refine lv_iload_n hx hb dX3_grindsAt_29 rfl (lv_at hl 0 rfl) ?_
      refine lv_if_lt (tgt := 45) hx hb dX3_grindsAt_30 (by decide) (fun c_4 => ?_) (fun c_4 => ?_)
      · skip
        refine lv_iconst (v := 0) hx hb dX3_grindsAt_45 (by decide) ?_
        exact W.zret (v := 0) hx hb hr (by decide) (fun t ht hW => ⟨0, rfl, Or.inl (⟨rfl, (lf_X3_grindsAt_2 hhb hww hkk c_1 e_2 c_3 c_4)⟩), ht⟩) (fun _ h => by cases h) dX3_grindsAt_46
      · skip
        refine lv_iload_n hx hb dX3_grindsAt_33 rfl (lv_at hl 0 rfl) ?_
        refine lv_aload_n hx hb dX3_grindsAt_34 rfl (lv_at hl 1 rfl) ?_
        refine va_get (D := (dC, dI)) (ci := 3) (v := .int v2) (C := RX3) (T := TX3) (N := 13) hx hb hts i_X3_grindsAt_X3 hown hK hP 0 rfl rfl 2 (by decide) (hts _ mx_X3_grindsAt_3) (fun _ h9 => h9) rfl dX3_grindsAt_35 ?_
        refine lv_icmp_gt (tgt := 45) hx hb dX3_grindsAt_38 (by decide) (fun c_5 => ?_) (fun c_5 => ?_)
        · skip
          refine lv_iconst (v := 0) hx hb dX3_grindsAt_45 (by decide) ?_
          exact W.zret (v := 0) hx hb hr (by decide) (fun t ht hW => ⟨0, rfl, Or.inl (⟨rfl, (lf_X3_grindsAt_3 hhb hww hkk c_1 e_2 c_3 c_4 c_5)⟩), ht⟩) (fun _ h => by cases h) dX3_grindsAt_46
        · skip
          refine lv_iconst (v := 1) hx hb dX3_grindsAt_41 (by decide) ?_
          refine lv_goto (tgt := 46) hx hb dX3_grindsAt_42 (by decide) ?_
          exact W.zret (v := 1) hx hb hr (by decide) (fun t ht hW => ⟨1, rfl, Or.inr (⟨rfl, (lf_X3_grindsAt_4 hhb hww hkk c_1 e_2 c_3 c_4 c_5)⟩), ht⟩) (fun _ h => by cases h) dX3_grindsAt_46
  · skip
    refine lv_iload_n hx hb dX3_grindsAt_8 rfl (lv_at hl 1 rfl) ?_
    refine lv_aload_n hx hb dX3_grindsAt_9 rfl (lv_at hl 0 rfl) ?_
    refine va_get (D := (dC, dI)) (ci := 3) (v := .int v1) (C := RX3) (T := TX3) (N := 13) hx hb hts i_X3_grindsAt_X3 hown hK hP 0 rfl rfl 1 (by decide) (hts _ mx_X3_grindsAt_2) (fun _ h9 => h9) rfl dX3_grindsAt_10 ?_
    refine lv_isub hx hb dX3_grindsAt_13 ?_
    refine lv_topi (fun v_6 e_6 => ?_)
    refine lv_goto (tgt := 23) hx hb dX3_grindsAt_14 (by decide) ?_
    refine lv_istore_n (lv' := [(3, .int v_6), (0, .ref h), (1, .int n), (2, .int k)]) hx hb dX3_grindsAt_23 rfl hl (by decide) rfl (fun ls hl => ?_)
    refine lv_iload_n hx hb dX3_grindsAt_24 rfl (lv_at hl 3 rfl) ?_
    refine lv_iconst (v := 2) hx hb dX3_grindsAt_25 (by decide) ?_
    refine lv_icmp_eq (tgt := 45) hx hb dX3_grindsAt_26 (by decide) (fun c_7 => ?_) (fun c_7 => ?_)
    · skip
      refine lv_iconst (v := 0) hx hb dX3_grindsAt_45 (by decide) ?_
      exact W.zret (v := 0) hx hb hr (by decide) (fun t ht hW => ⟨0, rfl, Or.inl (⟨rfl, (lf_X3_grindsAt_5 hhb hww hkk c_1 e_6 c_7)⟩), ht⟩) (fun _ h => by cases h) dX3_grindsAt_46
    · skip
      refine lv_iload_n hx hb dX3_grindsAt_29 rfl (lv_at hl 0 rfl) ?_
      refine lv_if_lt (tgt := 45) hx hb dX3_grindsAt_30 (by decide) (fun c_8 => ?_) (fun c_8 => ?_)
      · skip
        refine lv_iconst (v := 0) hx hb dX3_grindsAt_45 (by decide) ?_
        exact W.zret (v := 0) hx hb hr (by decide) (fun t ht hW => ⟨0, rfl, Or.inl (⟨rfl, (lf_X3_grindsAt_6 hhb hww hkk c_1 e_6 c_7 c_8)⟩), ht⟩) (fun _ h => by cases h) dX3_grindsAt_46
      · skip
        refine lv_iload_n hx hb dX3_grindsAt_33 rfl (lv_at hl 0 rfl) ?_
        refine lv_aload_n hx hb dX3_grindsAt_34 rfl (lv_at hl 1 rfl) ?_
        refine va_get (D := (dC, dI)) (ci := 3) (v := .int v2) (C := RX3) (T := TX3) (N := 13) hx hb hts i_X3_grindsAt_X3 hown hK hP 0 rfl rfl 2 (by decide) (hts _ mx_X3_grindsAt_3) (fun _ h9 => h9) rfl dX3_grindsAt_35 ?_
        refine lv_icmp_gt (tgt := 45) hx hb dX3_grindsAt_38 (by decide) (fun c_9 => ?_) (fun c_9 => ?_)
        · skip
          refine lv_iconst (v := 0) hx hb dX3_grindsAt_45 (by decide) ?_
          exact W.zret (v := 0) hx hb hr (by decide) (fun t ht hW => ⟨0, rfl, Or.inl (⟨rfl, (lf_X3_grindsAt_7 hhb hww hkk c_1 e_6 c_7 c_8 c_9)⟩), ht⟩) (fun _ h => by cases h) dX3_grindsAt_46
        · skip
          refine lv_iconst (v := 1) hx hb dX3_grindsAt_41 (by decide) ?_
          refine lv_goto (tgt := 46) hx hb dX3_grindsAt_42 (by decide) ?_
          exact W.zret (v := 1) hx hb hr (by decide) (fun t ht hW => ⟨1, rfl, Or.inr (⟨rfl, (lf_X3_grindsAt_8 hhb hww hkk c_1 e_6 c_7 c_8 c_9)⟩), ht⟩) (fun _ h => by cases h) dX3_grindsAt_46
theorem lf_X3_turnCap_1 {v3 : Int32} {hh : Nat} {ww : Nat} {kk : Nat} {v_1 : Int32} (hhb : hh < 2000000000) (hww : ww ≤ 6) (hkk : kk ≤ 6) (e_1 : v_1 = (1 - v3)) : v_1 = 1 - v3 := by
  grind
set_option maxHeartbeats 4000000 in
set_option maxRecDepth 100000 in
theorem r_X3_turnCap (l : Launch) (dC : Nat → ClassId) (dI : Nat → Nat → Nat) (cI cZ cL cJ : ClassId) (sz : Nat) (h : Nat) (v0 : Int32) (v1 : Int32) (v2 : Int32) (v3 : Int32) (v5 : Int32) (hh : Nat) (ww : Nat) (kk : Nat) (b1 : Nat) (b2 : Nat) (b3 : Nat) (b4 : Nat) (b5 : Nat) (g1 : Nat → Int32) (g2 : Nat → Int32) (g3 : Nat → Int32) (g4 : Nat → Int32) (g5 : Nat → Int32) (hhb : hh < 2000000000) (hww : ww ≤ 6) (hkk : kk ≤ 6) : Met l yX3_turnCap wsX3_turnCap ({ frames := 0, cells := 0, slots := 0, locals := 0 }) (va_Pc [.ref h] (fun U => U.heap.size = sz ∧ va_P (dC, dI) vwCl [(xo_3_iiiiiiiirrrrr h v0 v1 v2 v3 (nI hh) v5 (nI ww) (nI kk) b1 b2 b3 b4 b5), (xI b1 cI 6 g1), (xI b2 cI 6 g2), (xI b3 cI 6 g3), (xI b4 cI 6 g4), (xI b5 cI 6 g5)] U.heap ∧ va_K (dC, dI) vwCl [(cI, .int), (cZ, .boolean), (cL, .object RX3), (cJ, .array .int)] U ∧ va_D (fun _ => True) [(xo_3_iiiiiiiirrrrr h v0 v1 v2 v3 (nI hh) v5 (nI ww) (nI kk) b1 b2 b3 b4 b5), (xI b1 cI 6 g1), (xI b2 cI 6 g2), (xI b3 cI 6 g3), (xI b4 cI 6 g4), (xI b5 cI 6 g5)])) (va_Qv (fun (_ : Unit) => True) (fun (_ : Unit) t => ∃ (v3n : Int32), va_P (dC, dI) vwCl [(xo_3_iiiiiiiirrrrr h v0 v1 v2 v3n (nI hh) v5 (nI ww) (nI kk) b1 b2 b3 b4 b5), (xI b1 cI 6 g1), (xI b2 cI 6 g2), (xI b3 cI 6 g3), (xI b4 cI 6 g4), (xI b5 cI 6 g5)] t.heap ∧ va_D (va_A [(xo_3_iiiiiiiirrrrr h v0 v1 v2 v3 (nI hh) v5 (nI ww) (nI kk) b1 b2 b3 b4 b5), (xI b1 cI 6 g1), (xI b2 cI 6 g2), (xI b3 cI 6 g3), (xI b4 cI 6 g4), (xI b5 cI 6 g5)] sz) [(xo_3_iiiiiiiirrrrr h v0 v1 v2 v3n (nI hh) v5 (nI ww) (nI kk) b1 b2 b3 b4 b5), (xI b1 cI 6 g1), (xI b2 cI 6 g2), (xI b3 cI 6 g3), (xI b4 cI 6 g4), (xI b5 cI 6 g5)] ∧ v3n = 1 - v3) (va_A [(xo_3_iiiiiiiirrrrr h v0 v1 v2 v3 (nI hh) v5 (nI ww) (nI kk) b1 b2 b3 b4 b5), (xI b1 cI 6 g1), (xI b2 cI 6 g2), (xI b3 cI 6 g3), (xI b4 cI 6 g4), (xI b5 cI 6 g5)] sz)) 0 0 (va_A [(xo_3_iiiiiiiirrrrr h v0 v1 v2 v3 (nI hh) v5 (nI ww) (nI kk) b1 b2 b3 b4 b5), (xI b1 cI 6 g1), (xI b2 cI 6 g2), (xI b3 cI 6 g3), (xI b4 cI 6 g4), (xI b5 cI 6 g5)] sz) := by
  refine Met.ofW (cc := cX3_turnCap) (maxL := 1) (ret := none) (by decide) rfl ?_
  intro p e s m args below meth c s₁ B hml hv
  obtain ⟨rfl, hsz, hP, hK, hD0⟩ := hv
  have hx := B.exec
  have hb := B.bytes
  have hr := B.returns
  have hts := atoms_spec (ws := wsX3_turnCap) B.pre
  have hown : s.vm.findClass RX3 = some m.cls := findClass_of_methodNamed B.named
  have hlocks := B.notSynchronized
  subst hsz
  have hD := hD0.self (sz := s.heap.size)
  generalize hAe : va_A [(xo_3_iiiiiiiirrrrr h v0 v1 v2 v3 (nI hh) v5 (nI ww) (nI kk) b1 b2 b3 b4 b5), (xI b1 cI 6 g1), (xI b2 cI 6 g2), (xI b3 cI 6 g3), (xI b4 cI 6 g4), (xI b5 cI 6 g5)] s.heap.size = A at hD ⊢
  have hA : ∀ q : Nat, s.heap.size ≤ q → A q := fun q h => by rw [← hAe]; exact Or.inr h
  have hS : va_S A s.heap s.heap [] := va_S.rf
  have hP : va_P (dC, dI) vwCl [(xo_3_iiiiiiiirrrrr h v0 v1 v2 v3 (nI hh) v5 (nI ww) (nI kk) b1 b2 b3 b4 b5), (xI b1 cI 6 g1), (xI b2 cI 6 g2), (xI b3 cI 6 g3), (xI b4 cI 6 g4), (xI b5 cI 6 g5)] s.heap := hP
  have hl := lv_entry ([.ref h]) (n := 1) (Nat.le_of_ble_eq_true rfl)
  rw [lg_entry_eq]
  generalize (lg_sl ([.ref h]) ++ List.replicate (1 - (lg_sl ([.ref h])).length) Slot.unset).toArray = ls at hl ⊢
  have hl : lv_has ls 1 [(0, .ref h)] := hl
  refine lv_aload_n hx hb dX3_turnCap_0 rfl (lv_at hl 0 rfl) ?_
  refine lv_iconst (v := 1) hx hb dX3_turnCap_1 (by decide) ?_
  refine lv_aload_n hx hb dX3_turnCap_2 rfl (lv_at hl 0 rfl) ?_
  refine va_get (D := (dC, dI)) (ci := 3) (v := .int v3) (C := RX3) (T := TX3) (N := 13) hx hb hts i_X3_turnCap_X3 hown hK hP 0 rfl rfl 3 (by decide) (hts _ mx_X3_turnCap_1) (fun _ h9 => h9) rfl dX3_turnCap_3 ?_
  refine lv_isub hx hb dX3_turnCap_6 ?_
  refine lv_topi (fun v_1 e_1 => ?_)
  refine va_put (D := (dC, dI)) (ci := 3) (v := .int v_1) (ty := .int) (C := RX3) (T := TX3) (N := 13) hx hb hts i_X3_turnCap_X3 tyX3 tyX3_ok nmX3 hown hK hP hD hS 0 rfl rfl 3 (by decide) (hts _ mx_X3_turnCap_1) (fun _ h9 => h9) rfl (by decide +kernel) rfl rfl (Nat.le_of_ble_eq_true rfl) dX3_turnCap_7 (fun H locs hP hD hS => ?_)
  have hP : va_P (dC, dI) vwCl [(xo_3_iiiiiiiirrrrr h v0 v1 v2 v_1 (nI hh) v5 (nI ww) (nI kk) b1 b2 b3 b4 b5), (xI b1 cI 6 g1), (xI b2 cI 6 g2), (xI b3 cI 6 g3), (xI b4 cI 6 g4), (xI b5 cI 6 g5)] H := hP
  have hD := dto hP hD
  have hX9 := cut2 (wc := [(xo_3_iiiiiiiirrrrr h v0 v1 v2 v_1 (nI hh) v5 (nI ww) (nI kk) b1 b2 b3 b4 b5), (xI b1 cI 6 g1), (xI b2 cI 6 g2), (xI b3 cI 6 g3), (xI b4 cI 6 g4), (xI b5 cI 6 g5)]) hP hD [0, 1, 2, 3, 4, 5] (by decide +kernel) rfl
  exact W.vret hx hb hr (fun t ht hW => ⟨⟨(), rfl, trivial, ⟨v_1, va_Ht ht hX9.1, hX9.2, (lf_X3_turnCap_1 hhb hww hkk e_1)⟩⟩, hS.F ht⟩) hS.2.2 dX3_turnCap_10
theorem lf_X3_turnWind_1 {hh : Nat} {ww : Nat} {kk : Nat} {g1 : Nat → Int32} (hhb : hh < 2000000000) (hww : ww ≤ 6) (hkk : kk ≤ 6) (c_1 : ww ≤ 0) : g1 = twX g1 ww hh := by
  simp only [twX]; grind
theorem lf_X3_turnWind_2 {hh : Nat} {ww : Nat} {kk : Nat} {g1 : Nat → Int32} {z_2 : Nat} {v_3 : Int32} {v_4 : Int32} {g_5 : Nat → Int32} (hhb : hh < 2000000000) (hww : ww ≤ 6) (hkk : kk ≤ 6) (c_1 : ¬ (ww ≤ 0)) (hz_2 : z_2 < ww) (hze_2 : z_2 = hh % ww) (e_3 : v_3 = g1 z_2) (e_4 : v_4 = (4 - v_3)) (hu_5 : g_5 = upd g1 z_2 v_4) : g_5 = twX g1 ww hh := by
  simp only [twX]; grind
set_option maxHeartbeats 4000000 in
set_option maxRecDepth 100000 in
theorem r_X3_turnWind (l : Launch) (dC : Nat → ClassId) (dI : Nat → Nat → Nat) (cI cZ cL cJ : ClassId) (sz : Nat) (h : Nat) (v0 : Int32) (v1 : Int32) (v2 : Int32) (v3 : Int32) (v5 : Int32) (hh : Nat) (ww : Nat) (kk : Nat) (b1 : Nat) (b2 : Nat) (b3 : Nat) (b4 : Nat) (b5 : Nat) (g1 : Nat → Int32) (g2 : Nat → Int32) (g3 : Nat → Int32) (g4 : Nat → Int32) (g5 : Nat → Int32) (hhb : hh < 2000000000) (hww : ww ≤ 6) (hkk : kk ≤ 6) : Met l yX3_turnWind wsX3_turnWind ({ frames := 0, cells := 0, slots := 0, locals := 0 }) (va_Pc [.ref h] (fun U => U.heap.size = sz ∧ va_P (dC, dI) vwCl [(xo_3_iiiiiiiirrrrr h v0 v1 v2 v3 (nI hh) v5 (nI ww) (nI kk) b1 b2 b3 b4 b5), (xI b1 cI 6 g1), (xI b2 cI 6 g2), (xI b3 cI 6 g3), (xI b4 cI 6 g4), (xI b5 cI 6 g5)] U.heap ∧ va_K (dC, dI) vwCl [(cI, .int), (cZ, .boolean), (cL, .object RX3), (cJ, .array .int)] U ∧ va_D (fun _ => True) [(xo_3_iiiiiiiirrrrr h v0 v1 v2 v3 (nI hh) v5 (nI ww) (nI kk) b1 b2 b3 b4 b5), (xI b1 cI 6 g1), (xI b2 cI 6 g2), (xI b3 cI 6 g3), (xI b4 cI 6 g4), (xI b5 cI 6 g5)])) (va_Qv (fun (_ : Unit) => True) (fun (_ : Unit) t => ∃ (g1n : Nat → Int32), va_P (dC, dI) vwCl [(xo_3_iiiiiiiirrrrr h v0 v1 v2 v3 (nI hh) v5 (nI ww) (nI kk) b1 b2 b3 b4 b5), (xI b1 cI 6 g1n), (xI b2 cI 6 g2), (xI b3 cI 6 g3), (xI b4 cI 6 g4), (xI b5 cI 6 g5)] t.heap ∧ va_D (va_A [(xo_3_iiiiiiiirrrrr h v0 v1 v2 v3 (nI hh) v5 (nI ww) (nI kk) b1 b2 b3 b4 b5), (xI b1 cI 6 g1), (xI b2 cI 6 g2), (xI b3 cI 6 g3), (xI b4 cI 6 g4), (xI b5 cI 6 g5)] sz) [(xo_3_iiiiiiiirrrrr h v0 v1 v2 v3 (nI hh) v5 (nI ww) (nI kk) b1 b2 b3 b4 b5), (xI b1 cI 6 g1n), (xI b2 cI 6 g2), (xI b3 cI 6 g3), (xI b4 cI 6 g4), (xI b5 cI 6 g5)] ∧ g1n = twX g1 ww hh) (va_A [(xo_3_iiiiiiiirrrrr h v0 v1 v2 v3 (nI hh) v5 (nI ww) (nI kk) b1 b2 b3 b4 b5), (xI b1 cI 6 g1), (xI b2 cI 6 g2), (xI b3 cI 6 g3), (xI b4 cI 6 g4), (xI b5 cI 6 g5)] sz)) 0 0 (va_A [(xo_3_iiiiiiiirrrrr h v0 v1 v2 v3 (nI hh) v5 (nI ww) (nI kk) b1 b2 b3 b4 b5), (xI b1 cI 6 g1), (xI b2 cI 6 g2), (xI b3 cI 6 g3), (xI b4 cI 6 g4), (xI b5 cI 6 g5)] sz) := by
  refine Met.ofW (cc := cX3_turnWind) (maxL := 2) (ret := none) (by decide) rfl ?_
  intro p e s m args below meth c s₁ B hml hv
  obtain ⟨rfl, hsz, hP, hK, hD0⟩ := hv
  have hx := B.exec
  have hb := B.bytes
  have hr := B.returns
  have hts := atoms_spec (ws := wsX3_turnWind) B.pre
  have hown : s.vm.findClass RX3 = some m.cls := findClass_of_methodNamed B.named
  have hlocks := B.notSynchronized
  subst hsz
  have hD := hD0.self (sz := s.heap.size)
  generalize hAe : va_A [(xo_3_iiiiiiiirrrrr h v0 v1 v2 v3 (nI hh) v5 (nI ww) (nI kk) b1 b2 b3 b4 b5), (xI b1 cI 6 g1), (xI b2 cI 6 g2), (xI b3 cI 6 g3), (xI b4 cI 6 g4), (xI b5 cI 6 g5)] s.heap.size = A at hD ⊢
  have hA : ∀ q : Nat, s.heap.size ≤ q → A q := fun q h => by rw [← hAe]; exact Or.inr h
  have hS : va_S A s.heap s.heap [] := va_S.rf
  have hP : va_P (dC, dI) vwCl [(xo_3_iiiiiiiirrrrr h v0 v1 v2 v3 (nI hh) v5 (nI ww) (nI kk) b1 b2 b3 b4 b5), (xI b1 cI 6 g1), (xI b2 cI 6 g2), (xI b3 cI 6 g3), (xI b4 cI 6 g4), (xI b5 cI 6 g5)] s.heap := hP
  have hl := lv_entry ([.ref h]) (n := 2) (Nat.le_of_ble_eq_true rfl)
  rw [lg_entry_eq]
  generalize (lg_sl ([.ref h]) ++ List.replicate (2 - (lg_sl ([.ref h])).length) Slot.unset).toArray = ls at hl ⊢
  have hl : lv_has ls 2 [(0, .ref h)] := hl
  refine lv_aload_n hx hb dX3_turnWind_0 rfl (lv_at hl 0 rfl) ?_
  refine va_get (D := (dC, dI)) (ci := 3) (v := .int (nI ww)) (C := RX3) (T := TX3) (N := 13) hx hb hts i_X3_turnWind_X3 hown hK hP 0 rfl rfl 6 (by decide) (hts _ mx_X3_turnWind_1) (fun _ h9 => h9) rfl dX3_turnWind_1 ?_
  refine lv_if_le (tgt := 31) hx hb dX3_turnWind_4 (by decide) (fun c_1 => ?_) (fun c_1 => ?_)
  · have c_1 : ww ≤ 0 := (nI_leI (a := ww) (b := 0) (by omega) (by omega)).mp c_1
    have hX9 := cut2 (wc := [(xo_3_iiiiiiiirrrrr h v0 v1 v2 v3 (nI hh) v5 (nI ww) (nI kk) b1 b2 b3 b4 b5), (xI b1 cI 6 g1), (xI b2 cI 6 g2), (xI b3 cI 6 g3), (xI b4 cI 6 g4), (xI b5 cI 6 g5)]) hP hD [0, 1, 2, 3, 4, 5] (by decide +kernel) rfl
    exact W.vret hx hb hr (fun t ht hW => ⟨⟨(), rfl, trivial, ⟨g1, va_Ht ht hX9.1, hX9.2, (lf_X3_turnWind_1 hhb hww hkk c_1)⟩⟩, hS.F ht⟩) hS.2.2 dX3_turnWind_31
  · have c_1 : ¬ (ww ≤ 0) := fun q_ => c_1 ((nI_leI (a := ww) (b := 0) (by omega) (by omega)).mpr q_)
    refine lv_aload_n hx hb dX3_turnWind_7 rfl (lv_at hl 0 rfl) ?_
    refine va_get (D := (dC, dI)) (ci := 3) (v := .int (nI hh)) (C := RX3) (T := TX3) (N := 13) hx hb hts i_X3_turnWind_X3 hown hK hP 0 rfl rfl 4 (by decide) (hts _ mx_X3_turnWind_2) (fun _ h9 => h9) rfl dX3_turnWind_8 ?_
    refine lv_aload_n hx hb dX3_turnWind_11 rfl (lv_at hl 0 rfl) ?_
    refine va_get (D := (dC, dI)) (ci := 3) (v := .int (nI ww)) (C := RX3) (T := TX3) (N := 13) hx hb hts i_X3_turnWind_X3 hown hK hP 0 rfl rfl 6 (by decide) (hts _ mx_X3_turnWind_1) (fun _ h9 => h9) rfl dX3_turnWind_12 ?_
    refine lv_irem hx hb dX3_turnWind_15 (nI_ne0 (by omega) (by omega)) ?_
    refine lv_topi (fun v_2 e_2 => ?_)
    obtain ⟨z_2, hz_2, hze_2, rfl⟩ : ∃ z : Nat, z < ww ∧ z = hh % ww ∧ v_2 = nI z := ⟨hh % ww, Nat.mod_lt _ (by omega), rfl, e_2.trans (pk_rem (a := hh) (d := ww) (by omega) (by omega) (by omega))⟩
    refine lv_istore_n (lv' := [(1, .int (nI z_2)), (0, .ref h)]) hx hb dX3_turnWind_16 rfl hl (by decide) rfl (fun ls hl => ?_)
    refine lv_aload_n hx hb dX3_turnWind_17 rfl (lv_at hl 1 rfl) ?_
    refine va_get (D := (dC, dI)) (ci := 3) (v := .ref b1) (C := RX3) (T := TX3) (N := 13) hx hb hts i_X3_turnWind_X3 hown hK hP 0 rfl rfl 8 (by decide) (hts _ mx_X3_turnWind_3) (fun _ h9 => h9) rfl dX3_turnWind_18 ?_
    refine lv_iload_n hx hb dX3_turnWind_21 rfl (lv_at hl 0 rfl) ?_
    refine lv_iconst (v := 4) hx hb dX3_turnWind_22 (by decide) ?_
    refine lv_aload_n hx hb dX3_turnWind_23 rfl (lv_at hl 1 rfl) ?_
    refine va_get (D := (dC, dI)) (ci := 3) (v := .ref b1) (C := RX3) (T := TX3) (N := 13) hx hb hts i_X3_turnWind_X3 hown hK hP 0 rfl rfl 8 (by decide) (hts _ mx_X3_turnWind_3) (fun _ h9 => h9) rfl dX3_turnWind_24 ?_
    refine lv_iload_n hx hb dX3_turnWind_27 rfl (lv_at hl 0 rfl) ?_
    refine va_iald hx hb hK hP 1 0 rfl rfl (vp_in_nI (by omega) (by omega)) dX3_turnWind_28 ?_
    refine lv_topi (fun v_3 e_3 => ?_)
    have e_3 : v_3 = g1 z_2 := e_3.trans (congrArg g1 (nI_clamp (by omega)))
    refine lv_isub hx hb dX3_turnWind_29 ?_
    refine lv_topi (fun v_4 e_4 => ?_)
    refine va_iast hx hb hK hP hD hS 1 0 rfl rfl (vp_in_nI (by omega) (by omega)) dX3_turnWind_30 (fun H locs hP hD hS => ?_)
    generalize hg_5 : upd g1 ((nI z_2) : Int32).toNatClampNeg v_4 = g_5 at hP hD
    have hu_5 : g_5 = upd g1 z_2 v_4 := (by rw [← hg_5, nI_clamp (by omega)])
    have hP : va_P (dC, dI) vwCl [(xo_3_iiiiiiiirrrrr h v0 v1 v2 v3 (nI hh) v5 (nI ww) (nI kk) b1 b2 b3 b4 b5), (xI b1 cI 6 g_5), (xI b2 cI 6 g2), (xI b3 cI 6 g3), (xI b4 cI 6 g4), (xI b5 cI 6 g5)] H := hP
    have hD := dto hP hD
    have hX9 := cut2 (wc := [(xo_3_iiiiiiiirrrrr h v0 v1 v2 v3 (nI hh) v5 (nI ww) (nI kk) b1 b2 b3 b4 b5), (xI b1 cI 6 g_5), (xI b2 cI 6 g2), (xI b3 cI 6 g3), (xI b4 cI 6 g4), (xI b5 cI 6 g5)]) hP hD [0, 1, 2, 3, 4, 5] (by decide +kernel) rfl
    exact W.vret hx hb hr (fun t ht hW => ⟨⟨(), rfl, trivial, ⟨g_5, va_Ht ht hX9.1, hX9.2, (lf_X3_turnWind_2 hhb hww hkk c_1 hz_2 hze_2 e_3 e_4 hu_5)⟩⟩, hS.F ht⟩) hS.2.2 dX3_turnWind_31
theorem lf_X3_letLoose_1 {hh : Nat} {ww : Nat} {kk : Nat} {g3 : Nat → Int32} {g4 : Nat → Int32} {g5 : Nat → Int32} {i : Nat} {n : Int32} {k : Int32} {g_1 : Nat → Int32} {g_2 : Nat → Int32} {g_3 : Nat → Int32} (hhb : hh < 2000000000) (hww : ww ≤ 6) (hkk : kk ≤ 6) (hi : i < 6) (hu_1 : g_1 = upd g3 i n) (hu_2 : g_2 = upd g4 i k) (hu_3 : g_3 = upd g5 i 0) : g_1 = upd g3 i n := by
  grind
theorem lf_X3_letLoose_2 {hh : Nat} {ww : Nat} {kk : Nat} {g3 : Nat → Int32} {g4 : Nat → Int32} {g5 : Nat → Int32} {i : Nat} {n : Int32} {k : Int32} {g_1 : Nat → Int32} {g_2 : Nat → Int32} {g_3 : Nat → Int32} (hhb : hh < 2000000000) (hww : ww ≤ 6) (hkk : kk ≤ 6) (hi : i < 6) (hu_1 : g_1 = upd g3 i n) (hu_2 : g_2 = upd g4 i k) (hu_3 : g_3 = upd g5 i 0) : g_2 = upd g4 i k := by
  grind
theorem lf_X3_letLoose_3 {hh : Nat} {ww : Nat} {kk : Nat} {g3 : Nat → Int32} {g4 : Nat → Int32} {g5 : Nat → Int32} {i : Nat} {n : Int32} {k : Int32} {g_1 : Nat → Int32} {g_2 : Nat → Int32} {g_3 : Nat → Int32} (hhb : hh < 2000000000) (hww : ww ≤ 6) (hkk : kk ≤ 6) (hi : i < 6) (hu_1 : g_1 = upd g3 i n) (hu_2 : g_2 = upd g4 i k) (hu_3 : g_3 = upd g5 i 0) : g_3 = upd g5 i 0 := by
  grind
set_option maxHeartbeats 4000000 in
set_option maxRecDepth 100000 in
theorem r_X3_letLoose (l : Launch) (dC : Nat → ClassId) (dI : Nat → Nat → Nat) (cI cZ cL cJ : ClassId) (sz : Nat) (h : Nat) (v0 : Int32) (v1 : Int32) (v2 : Int32) (v3 : Int32) (v5 : Int32) (hh : Nat) (ww : Nat) (kk : Nat) (b1 : Nat) (b2 : Nat) (b3 : Nat) (b4 : Nat) (b5 : Nat) (g1 : Nat → Int32) (g2 : Nat → Int32) (g3 : Nat → Int32) (g4 : Nat → Int32) (g5 : Nat → Int32) (i : Nat) (n : Int32) (k : Int32) (hhb : hh < 2000000000) (hww : ww ≤ 6) (hkk : kk ≤ 6) (hi : i < 6) : Met l yX3_letLoose wsX3_letLoose ({ frames := 0, cells := 0, slots := 0, locals := 0 }) (va_Pc [.ref h, .int (nI i), .int n, .int k] (fun U => U.heap.size = sz ∧ va_P (dC, dI) vwCl [(xo_3_iiiiiiiirrrrr h v0 v1 v2 v3 (nI hh) v5 (nI ww) (nI kk) b1 b2 b3 b4 b5), (xI b1 cI 6 g1), (xI b2 cI 6 g2), (xI b3 cI 6 g3), (xI b4 cI 6 g4), (xI b5 cI 6 g5)] U.heap ∧ va_K (dC, dI) vwCl [(cI, .int), (cZ, .boolean), (cL, .object RX3), (cJ, .array .int)] U ∧ va_D (fun _ => True) [(xo_3_iiiiiiiirrrrr h v0 v1 v2 v3 (nI hh) v5 (nI ww) (nI kk) b1 b2 b3 b4 b5), (xI b1 cI 6 g1), (xI b2 cI 6 g2), (xI b3 cI 6 g3), (xI b4 cI 6 g4), (xI b5 cI 6 g5)])) (va_Qv (fun (_ : Unit) => True) (fun (_ : Unit) t => ∃ (g3n : Nat → Int32) (g4n : Nat → Int32) (g5n : Nat → Int32), va_P (dC, dI) vwCl [(xo_3_iiiiiiiirrrrr h v0 v1 v2 v3 (nI hh) v5 (nI ww) (nI kk) b1 b2 b3 b4 b5), (xI b1 cI 6 g1), (xI b2 cI 6 g2), (xI b3 cI 6 g3n), (xI b4 cI 6 g4n), (xI b5 cI 6 g5n)] t.heap ∧ va_D (va_A [(xo_3_iiiiiiiirrrrr h v0 v1 v2 v3 (nI hh) v5 (nI ww) (nI kk) b1 b2 b3 b4 b5), (xI b1 cI 6 g1), (xI b2 cI 6 g2), (xI b3 cI 6 g3), (xI b4 cI 6 g4), (xI b5 cI 6 g5)] sz) [(xo_3_iiiiiiiirrrrr h v0 v1 v2 v3 (nI hh) v5 (nI ww) (nI kk) b1 b2 b3 b4 b5), (xI b1 cI 6 g1), (xI b2 cI 6 g2), (xI b3 cI 6 g3n), (xI b4 cI 6 g4n), (xI b5 cI 6 g5n)] ∧ g3n = upd g3 i n ∧ g4n = upd g4 i k ∧ g5n = upd g5 i 0) (va_A [(xo_3_iiiiiiiirrrrr h v0 v1 v2 v3 (nI hh) v5 (nI ww) (nI kk) b1 b2 b3 b4 b5), (xI b1 cI 6 g1), (xI b2 cI 6 g2), (xI b3 cI 6 g3), (xI b4 cI 6 g4), (xI b5 cI 6 g5)] sz)) 0 0 (va_A [(xo_3_iiiiiiiirrrrr h v0 v1 v2 v3 (nI hh) v5 (nI ww) (nI kk) b1 b2 b3 b4 b5), (xI b1 cI 6 g1), (xI b2 cI 6 g2), (xI b3 cI 6 g3), (xI b4 cI 6 g4), (xI b5 cI 6 g5)] sz) := by
  refine Met.ofW (cc := cX3_letLoose) (maxL := 4) (ret := none) (by decide) rfl ?_
  intro p e s m args below meth c s₁ B hml hv
  obtain ⟨rfl, hsz, hP, hK, hD0⟩ := hv
  have hx := B.exec
  have hb := B.bytes
  have hr := B.returns
  have hts := atoms_spec (ws := wsX3_letLoose) B.pre
  have hown : s.vm.findClass RX3 = some m.cls := findClass_of_methodNamed B.named
  have hlocks := B.notSynchronized
  subst hsz
  have hD := hD0.self (sz := s.heap.size)
  generalize hAe : va_A [(xo_3_iiiiiiiirrrrr h v0 v1 v2 v3 (nI hh) v5 (nI ww) (nI kk) b1 b2 b3 b4 b5), (xI b1 cI 6 g1), (xI b2 cI 6 g2), (xI b3 cI 6 g3), (xI b4 cI 6 g4), (xI b5 cI 6 g5)] s.heap.size = A at hD ⊢
  have hA : ∀ q : Nat, s.heap.size ≤ q → A q := fun q h => by rw [← hAe]; exact Or.inr h
  have hS : va_S A s.heap s.heap [] := va_S.rf
  have hP : va_P (dC, dI) vwCl [(xo_3_iiiiiiiirrrrr h v0 v1 v2 v3 (nI hh) v5 (nI ww) (nI kk) b1 b2 b3 b4 b5), (xI b1 cI 6 g1), (xI b2 cI 6 g2), (xI b3 cI 6 g3), (xI b4 cI 6 g4), (xI b5 cI 6 g5)] s.heap := hP
  have hl := lv_entry ([.ref h, .int (nI i), .int n, .int k]) (n := 4) (Nat.le_of_ble_eq_true rfl)
  rw [lg_entry_eq]
  generalize (lg_sl ([.ref h, .int (nI i), .int n, .int k]) ++ List.replicate (4 - (lg_sl ([.ref h, .int (nI i), .int n, .int k])).length) Slot.unset).toArray = ls at hl ⊢
  have hl : lv_has ls 4 [(0, .ref h), (1, .int (nI i)), (2, .int n), (3, .int k)] := hl
  refine lv_aload_n hx hb dX3_letLoose_0 rfl (lv_at hl 0 rfl) ?_
  refine va_get (D := (dC, dI)) (ci := 3) (v := .ref b3) (C := RX3) (T := TX3) (N := 13) hx hb hts i_X3_letLoose_X3 hown hK hP 0 rfl rfl 10 (by decide) (hts _ mx_X3_letLoose_1) (fun _ h9 => h9) rfl dX3_letLoose_1 ?_
  refine lv_iload_n hx hb dX3_letLoose_4 rfl (lv_at hl 1 rfl) ?_
  refine lv_iload_n hx hb dX3_letLoose_5 rfl (lv_at hl 2 rfl) ?_
  refine va_iast hx hb hK hP hD hS 3 0 rfl rfl (vp_in_nI (by omega) (by omega)) dX3_letLoose_6 (fun H locs hP hD hS => ?_)
  generalize hg_1 : upd g3 ((nI i) : Int32).toNatClampNeg n = g_1 at hP hD
  have hu_1 : g_1 = upd g3 i n := (by rw [← hg_1, nI_clamp (by omega)])
  have hP : va_P (dC, dI) vwCl [(xo_3_iiiiiiiirrrrr h v0 v1 v2 v3 (nI hh) v5 (nI ww) (nI kk) b1 b2 b3 b4 b5), (xI b1 cI 6 g1), (xI b2 cI 6 g2), (xI b3 cI 6 g_1), (xI b4 cI 6 g4), (xI b5 cI 6 g5)] H := hP
  have hD := dto hP hD
  refine lv_aload_n hx hb dX3_letLoose_7 rfl (lv_at hl 0 rfl) ?_
  refine va_get (D := (dC, dI)) (ci := 3) (v := .ref b4) (C := RX3) (T := TX3) (N := 13) hx hb hts i_X3_letLoose_X3 hown hK hP 0 rfl rfl 11 (by decide) (hts _ mx_X3_letLoose_2) (fun _ h9 => h9) rfl dX3_letLoose_8 ?_
  refine lv_iload_n hx hb dX3_letLoose_11 rfl (lv_at hl 1 rfl) ?_
  refine lv_iload_n hx hb dX3_letLoose_12 rfl (lv_at hl 3 rfl) ?_
  refine va_iast hx hb hK hP hD hS 4 0 rfl rfl (vp_in_nI (by omega) (by omega)) dX3_letLoose_13 (fun H locs hP hD hS => ?_)
  generalize hg_2 : upd g4 ((nI i) : Int32).toNatClampNeg k = g_2 at hP hD
  have hu_2 : g_2 = upd g4 i k := (by rw [← hg_2, nI_clamp (by omega)])
  have hP : va_P (dC, dI) vwCl [(xo_3_iiiiiiiirrrrr h v0 v1 v2 v3 (nI hh) v5 (nI ww) (nI kk) b1 b2 b3 b4 b5), (xI b1 cI 6 g1), (xI b2 cI 6 g2), (xI b3 cI 6 g_1), (xI b4 cI 6 g_2), (xI b5 cI 6 g5)] H := hP
  have hD := dto hP hD
  refine lv_aload_n hx hb dX3_letLoose_14 rfl (lv_at hl 0 rfl) ?_
  refine va_get (D := (dC, dI)) (ci := 3) (v := .ref b5) (C := RX3) (T := TX3) (N := 13) hx hb hts i_X3_letLoose_X3 hown hK hP 0 rfl rfl 12 (by decide) (hts _ mx_X3_letLoose_3) (fun _ h9 => h9) rfl dX3_letLoose_15 ?_
  refine lv_iload_n hx hb dX3_letLoose_18 rfl (lv_at hl 1 rfl) ?_
  refine lv_iconst (v := 0) hx hb dX3_letLoose_19 (by decide) ?_
  refine va_iast hx hb hK hP hD hS 5 0 rfl rfl (vp_in_nI (by omega) (by omega)) dX3_letLoose_20 (fun H locs hP hD hS => ?_)
  generalize hg_3 : upd g5 ((nI i) : Int32).toNatClampNeg 0 = g_3 at hP hD
  have hu_3 : g_3 = upd g5 i 0 := (by rw [← hg_3, nI_clamp (by omega)])
  have hP : va_P (dC, dI) vwCl [(xo_3_iiiiiiiirrrrr h v0 v1 v2 v3 (nI hh) v5 (nI ww) (nI kk) b1 b2 b3 b4 b5), (xI b1 cI 6 g1), (xI b2 cI 6 g2), (xI b3 cI 6 g_1), (xI b4 cI 6 g_2), (xI b5 cI 6 g_3)] H := hP
  have hD := dto hP hD
  have hX9 := cut2 (wc := [(xo_3_iiiiiiiirrrrr h v0 v1 v2 v3 (nI hh) v5 (nI ww) (nI kk) b1 b2 b3 b4 b5), (xI b1 cI 6 g1), (xI b2 cI 6 g2), (xI b3 cI 6 g_1), (xI b4 cI 6 g_2), (xI b5 cI 6 g_3)]) hP hD [0, 1, 2, 3, 4, 5] (by decide +kernel) rfl
  exact W.vret hx hb hr (fun t ht hW => ⟨⟨(), rfl, trivial, ⟨g_1, g_2, g_3, va_Ht ht hX9.1, hX9.2, (lf_X3_letLoose_1 hhb hww hkk hi hu_1 hu_2 hu_3), (lf_X3_letLoose_2 hhb hww hkk hi hu_1 hu_2 hu_3), (lf_X3_letLoose_3 hhb hww hkk hi hu_1 hu_2 hu_3)⟩⟩, hS.F ht⟩) hS.2.2 dX3_letLoose_21
theorem lf_X3_passSound_1 {v0 : Int32} {v1 : Int32} {v2 : Int32} {v3 : Int32} {v5 : Int32} {hh : Nat} {ww : Nat} {kk : Nat} {g2 : Nat → Int32} {g3 : Nat → Int32} {g4 : Nat → Int32} {g5 : Nat → Int32} {i : Nat} {n : Int32} (hhb : hh < 2000000000) (hww : ww ≤ 6) (hkk : kk ≤ 6) (hi : i < 6) (f_1_0_0 : ¬ g5 i = 0) : psX v0 v1 v2 v3 g2 i n (v5, g3, g4, g5) = (v5, g3, g4, g5) := by
  simp only [psX, loX, cX, lX, limX]; grind
theorem lf_X3_passSound_2 {v0 : Int32} {v1 : Int32} {v2 : Int32} {v3 : Int32} {v5 : Int32} {hh : Nat} {ww : Nat} {kk : Nat} {g2 : Nat → Int32} {g3 : Nat → Int32} {g4 : Nat → Int32} {g5 : Nat → Int32} {i : Nat} {n : Int32} {v_4 : Int32} {r_5 : Int32} {v_6 : Int32} {r_7 : Int32} {g_10 : Nat → Int32} (hhb : hh < 2000000000) (hww : ww ≤ 6) (hkk : kk ≤ 6) (hi : i < 6) (f_1_1_0 : g5 i = 0) (e_4 : v_4 = g3 i) (h_5 : r_5 = (dfX (g2 i) (n - 2))) (e_6 : v_6 = (v_4 + r_5)) (h_7 : r_7 = (lbX (g2 i) (g4 i))) (f_8_0_0 : (v_6 < 0 ∨ v0 ≤ v_6)) (hu_10 : g_10 = upd g5 i 2) : psX v0 v1 v2 v3 g2 i n (v5, g3, g4, g5) = (v5, g3, g4, g_10) := by
  simp only [psX, loX, cX, lX, limX]; grind
theorem lf_X3_passSound_3 {v0 : Int32} {v1 : Int32} {v2 : Int32} {v3 : Int32} {v5 : Int32} {hh : Nat} {ww : Nat} {kk : Nat} {g2 : Nat → Int32} {g3 : Nat → Int32} {g4 : Nat → Int32} {g5 : Nat → Int32} {i : Nat} {n : Int32} {v_4 : Int32} {r_5 : Int32} {v_6 : Int32} {r_7 : Int32} {g3n_13 : Nat → Int32} {g4n_13 : Nat → Int32} {g5n_13 : Nat → Int32} (hhb : hh < 2000000000) (hww : ww ≤ 6) (hkk : kk ≤ 6) (hi : i < 6) (f_1_1_0 : g5 i = 0) (e_4 : v_4 = g3 i) (h_5 : r_5 = (dfX (g2 i) (n - 2))) (e_6 : v_6 = (v_4 + r_5)) (h_7 : r_7 = (lbX (g2 i) (g4 i))) (f_8_1_0 : ¬ v_6 < 0) (f_8_1_1 : ¬ v0 ≤ v_6) (c_12 : 0 < r_7) (hF_13_0 : g3n_13 = upd g3 i v_6) (hF_13_1 : g4n_13 = upd g4 i r_7) (hF_13_2 : g5n_13 = upd g5 i 0) (f_14_0_0 : ¬ grX v1 v2 v3 v_6 n) : psX v0 v1 v2 v3 g2 i n (v5, g3, g4, g5) = (v5, g3n_13, g4n_13, g5n_13) := by
  simp only [psX, loX, cX, lX, limX]; grind
theorem lf_X3_passSound_4 {v0 : Int32} {v1 : Int32} {v2 : Int32} {v3 : Int32} {v5 : Int32} {hh : Nat} {ww : Nat} {kk : Nat} {g2 : Nat → Int32} {g3 : Nat → Int32} {g4 : Nat → Int32} {g5 : Nat → Int32} {i : Nat} {n : Int32} {v_4 : Int32} {r_5 : Int32} {v_6 : Int32} {r_7 : Int32} {g3n_13 : Nat → Int32} {g4n_13 : Nat → Int32} {g5n_13 : Nat → Int32} {g_17 : Nat → Int32} {v_18 : Int32} {v_19 : Int32} (hhb : hh < 2000000000) (hww : ww ≤ 6) (hkk : kk ≤ 6) (hi : i < 6) (f_1_1_0 : g5 i = 0) (e_4 : v_4 = g3 i) (h_5 : r_5 = (dfX (g2 i) (n - 2))) (e_6 : v_6 = (v_4 + r_5)) (h_7 : r_7 = (lbX (g2 i) (g4 i))) (f_8_1_0 : ¬ v_6 < 0) (f_8_1_1 : ¬ v0 ≤ v_6) (c_12 : 0 < r_7) (hF_13_0 : g3n_13 = upd g3 i v_6) (hF_13_1 : g4n_13 = upd g4 i r_7) (hF_13_2 : g5n_13 = upd g5 i 0) (f_14_1_0 : grX v1 v2 v3 v_6 n) (hu_17 : g_17 = upd g5n_13 i 1) (e_18 : v_18 = (v5 + r_7)) (e_19 : v_19 = (if 999 < v_18 then 999 else v_18)) : psX v0 v1 v2 v3 g2 i n (v5, g3, g4, g5) = (v_19, g3n_13, g4n_13, g_17) := by
  simp only [psX, loX, cX, lX, limX]; grind
theorem lf_X3_passSound_5 {v0 : Int32} {v1 : Int32} {v2 : Int32} {v3 : Int32} {v5 : Int32} {hh : Nat} {ww : Nat} {kk : Nat} {g2 : Nat → Int32} {g3 : Nat → Int32} {g4 : Nat → Int32} {g5 : Nat → Int32} {i : Nat} {n : Int32} {v_4 : Int32} {r_5 : Int32} {v_6 : Int32} {r_7 : Int32} {g_20 : Nat → Int32} (hhb : hh < 2000000000) (hww : ww ≤ 6) (hkk : kk ≤ 6) (hi : i < 6) (f_1_1_0 : g5 i = 0) (e_4 : v_4 = g3 i) (h_5 : r_5 = (dfX (g2 i) (n - 2))) (e_6 : v_6 = (v_4 + r_5)) (h_7 : r_7 = (lbX (g2 i) (g4 i))) (f_8_1_0 : ¬ v_6 < 0) (f_8_1_1 : ¬ v0 ≤ v_6) (c_12 : ¬ (0 < r_7)) (hu_20 : g_20 = upd g5 i 2) : psX v0 v1 v2 v3 g2 i n (v5, g3, g4, g5) = (v5, g3, g4, g_20) := by
  simp only [psX, loX, cX, lX, limX]; grind
set_option maxHeartbeats 4000000 in
set_option maxRecDepth 100000 in
theorem r_X3_passSound (l : Launch) (dC : Nat → ClassId) (dI : Nat → Nat → Nat) (cI cZ cL cJ : ClassId) (sz : Nat) (h : Nat) (v0 : Int32) (v1 : Int32) (v2 : Int32) (v3 : Int32) (v5 : Int32) (hh : Nat) (ww : Nat) (kk : Nat) (b1 : Nat) (b2 : Nat) (b3 : Nat) (b4 : Nat) (b5 : Nat) (g1 : Nat → Int32) (g2 : Nat → Int32) (g3 : Nat → Int32) (g4 : Nat → Int32) (g5 : Nat → Int32) (i : Nat) (n : Int32) (hhb : hh < 2000000000) (hww : ww ≤ 6) (hkk : kk ≤ 6) (hi : i < 6) : Met l yX3_passSound wsX3_passSound ({ frames := 2, cells := 0, slots := 0, locals := 42 }) (va_Pc [.ref h, .int (nI i), .int n] (fun U => U.heap.size = sz ∧ va_P (dC, dI) vwCl [(xo_3_iiiiiiiirrrrr h v0 v1 v2 v3 (nI hh) v5 (nI ww) (nI kk) b1 b2 b3 b4 b5), (xI b1 cI 6 g1), (xI b2 cI 6 g2), (xI b3 cI 6 g3), (xI b4 cI 6 g4), (xI b5 cI 6 g5)] U.heap ∧ va_K (dC, dI) vwCl [(cI, .int), (cZ, .boolean), (cL, .object RX3), (cJ, .array .int)] U ∧ va_D (fun _ => True) [(xo_3_iiiiiiiirrrrr h v0 v1 v2 v3 (nI hh) v5 (nI ww) (nI kk) b1 b2 b3 b4 b5), (xI b1 cI 6 g1), (xI b2 cI 6 g2), (xI b3 cI 6 g3), (xI b4 cI 6 g4), (xI b5 cI 6 g5)])) (va_Qv (fun (_ : Unit) => True) (fun (_ : Unit) t => ∃ (v5n : Int32) (g3n : Nat → Int32) (g4n : Nat → Int32) (g5n : Nat → Int32), va_P (dC, dI) vwCl [(xo_3_iiiiiiiirrrrr h v0 v1 v2 v3 (nI hh) v5n (nI ww) (nI kk) b1 b2 b3 b4 b5), (xI b1 cI 6 g1), (xI b2 cI 6 g2), (xI b3 cI 6 g3n), (xI b4 cI 6 g4n), (xI b5 cI 6 g5n)] t.heap ∧ va_D (va_A [(xo_3_iiiiiiiirrrrr h v0 v1 v2 v3 (nI hh) v5 (nI ww) (nI kk) b1 b2 b3 b4 b5), (xI b1 cI 6 g1), (xI b2 cI 6 g2), (xI b3 cI 6 g3), (xI b4 cI 6 g4), (xI b5 cI 6 g5)] sz) [(xo_3_iiiiiiiirrrrr h v0 v1 v2 v3 (nI hh) v5n (nI ww) (nI kk) b1 b2 b3 b4 b5), (xI b1 cI 6 g1), (xI b2 cI 6 g2), (xI b3 cI 6 g3n), (xI b4 cI 6 g4n), (xI b5 cI 6 g5n)] ∧ psX v0 v1 v2 v3 g2 i n (v5, g3, g4, g5) = (v5n, g3n, g4n, g5n)) (va_A [(xo_3_iiiiiiiirrrrr h v0 v1 v2 v3 (nI hh) v5 (nI ww) (nI kk) b1 b2 b3 b4 b5), (xI b1 cI 6 g1), (xI b2 cI 6 g2), (xI b3 cI 6 g3), (xI b4 cI 6 g4), (xI b5 cI 6 g5)] sz)) 0 0 (va_A [(xo_3_iiiiiiiirrrrr h v0 v1 v2 v3 (nI hh) v5 (nI ww) (nI kk) b1 b2 b3 b4 b5), (xI b1 cI 6 g1), (xI b2 cI 6 g2), (xI b3 cI 6 g3), (xI b4 cI 6 g4), (xI b5 cI 6 g5)] sz) := by
  refine Met.ofW (cc := cX3_passSound) (maxL := 5) (ret := none) (by decide) rfl ?_
  intro p e s m args below meth c s₁ B hml hv
  obtain ⟨rfl, hsz, hP, hK, hD0⟩ := hv
  have hx := B.exec
  have hb := B.bytes
  have hr := B.returns
  have hts := atoms_spec (ws := wsX3_passSound) B.pre
  have hown : s.vm.findClass RX3 = some m.cls := findClass_of_methodNamed B.named
  have hlocks := B.notSynchronized
  subst hsz
  have hD := hD0.self (sz := s.heap.size)
  generalize hAe : va_A [(xo_3_iiiiiiiirrrrr h v0 v1 v2 v3 (nI hh) v5 (nI ww) (nI kk) b1 b2 b3 b4 b5), (xI b1 cI 6 g1), (xI b2 cI 6 g2), (xI b3 cI 6 g3), (xI b4 cI 6 g4), (xI b5 cI 6 g5)] s.heap.size = A at hD ⊢
  have hA : ∀ q : Nat, s.heap.size ≤ q → A q := fun q h => by rw [← hAe]; exact Or.inr h
  have hS : va_S A s.heap s.heap [] := va_S.rf
  have hP : va_P (dC, dI) vwCl [(xo_3_iiiiiiiirrrrr h v0 v1 v2 v3 (nI hh) v5 (nI ww) (nI kk) b1 b2 b3 b4 b5), (xI b1 cI 6 g1), (xI b2 cI 6 g2), (xI b3 cI 6 g3), (xI b4 cI 6 g4), (xI b5 cI 6 g5)] s.heap := hP
  have hl := lv_entry ([.ref h, .int (nI i), .int n]) (n := 5) (Nat.le_of_ble_eq_true rfl)
  rw [lg_entry_eq]
  generalize (lg_sl ([.ref h, .int (nI i), .int n]) ++ List.replicate (5 - (lg_sl ([.ref h, .int (nI i), .int n])).length) Slot.unset).toArray = ls at hl ⊢
  have hl : lv_has ls 5 [(0, .ref h), (1, .int (nI i)), (2, .int n)] := hl
  refine lv_aload_n hx hb dX3_passSound_0 rfl (lv_at hl 0 rfl) ?_
  refine lv_iload_n hx hb dX3_passSound_1 rfl (lv_at hl 1 rfl) ?_
  have hPc_1 := hP
  refine vp_callSi (W.runV (As := [.int (nI i)]) (rest := []) ⟨hx, hb, hml, hown, hts⟩ (r_X3_isLoose l dC dI cI cZ cL cJ h v0 v1 v2 v3 v5 hh ww kk b1 b2 b3 b4 b5 g1 g2 g3 g4 g5 i (hhb) (hww) (hkk) (by omega)) (cwV 1 hts gX3_passSound_X3_isLoose rfl rfl rfl (by decide +kernel) ⟨Nat.le_of_ble_eq_true rfl, Nat.le_of_ble_eq_true rfl⟩) (pvP 3 0 hK hP rfl rfl hPc_1) rfl rfl hl.1 rfl (lv_room (Nat.le_of_ble_eq_true rfl)) dX3_passSound_2 ⟨Nat.le_of_ble_eq_true rfl, Nat.le_of_ble_eq_true rfl⟩) (fun r_1 h_1 => ?_)
  rcases h_1 with ⟨h_1, f_1_0_0⟩ | ⟨h_1, f_1_1_0⟩
  · subst h_1
    refine lv_if_ne (tgt := 9) hx hb dX3_passSound_5 (by decide) (fun c_ => absurd (by decide) c_) (fun _ => ?_)
    have hX9 := cut2 (wc := [(xo_3_iiiiiiiirrrrr h v0 v1 v2 v3 (nI hh) v5 (nI ww) (nI kk) b1 b2 b3 b4 b5), (xI b1 cI 6 g1), (xI b2 cI 6 g2), (xI b3 cI 6 g3), (xI b4 cI 6 g4), (xI b5 cI 6 g5)]) hP hD [0, 1, 2, 3, 4, 5] (by decide +kernel) rfl
    exact W.vret hx hb hr (fun t ht hW => ⟨⟨(), rfl, trivial, ⟨v5, g3, g4, g5, va_Ht ht hX9.1, hX9.2, (lf_X3_passSound_1 hhb hww hkk hi f_1_0_0)⟩⟩, hS.F ht⟩) hS.2.2 dX3_passSound_8
  · subst h_1
    refine lv_if_ne (tgt := 9) hx hb dX3_passSound_5 (by decide) (fun _ => ?_) (fun c_ => absurd c_ (by decide))
    refine lv_aload_n hx hb dX3_passSound_9 rfl (lv_at hl 0 rfl) ?_
    refine va_get (D := (dC, dI)) (ci := 3) (v := .ref b3) (C := RX3) (T := TX3) (N := 13) hx hb hts i_X3_passSound_X3 hown hK hP 0 rfl rfl 10 (by decide) (hts _ mx_X3_passSound_1) (fun _ h9 => h9) rfl dX3_passSound_10 ?_
    refine lv_iload_n hx hb dX3_passSound_13 rfl (lv_at hl 1 rfl) ?_
    refine va_iald hx hb hK hP 3 0 rfl rfl (vp_in_nI (by omega) (by omega)) dX3_passSound_14 ?_
    refine lv_topi (fun v_4 e_4 => ?_)
    have e_4 : v_4 = g3 i := e_4.trans (congrArg g3 (nI_clamp (by omega)))
    refine lv_aload_n hx hb dX3_passSound_15 rfl (lv_at hl 0 rfl) ?_
    refine lv_iload_n hx hb dX3_passSound_16 rfl (lv_at hl 1 rfl) ?_
    refine lv_iload_n hx hb dX3_passSound_17 rfl (lv_at hl 2 rfl) ?_
    have hPc_5 := hP
    refine vp_callSi (W.runV (As := [.int (nI i), .int n]) (rest := [.int v_4]) ⟨hx, hb, hml, hown, hts⟩ (r_X3_driftOf l dC dI cI cZ cL cJ h v0 v1 v2 v3 v5 hh ww kk b1 b2 b3 b4 b5 g1 g2 g3 g4 g5 i n (hhb) (hww) (hkk) (by omega)) (cwV 2 hts gX3_passSound_X3_driftOf rfl rfl rfl (by decide +kernel) ⟨Nat.le_of_ble_eq_true rfl, Nat.le_of_ble_eq_true rfl⟩) (pvP 3 0 hK hP rfl rfl hPc_5) rfl rfl hl.1 rfl (lv_room (Nat.le_of_ble_eq_true rfl)) dX3_passSound_18 ⟨Nat.le_of_ble_eq_true rfl, Nat.le_of_ble_eq_true rfl⟩) (fun r_5 h_5 => ?_)
    refine lv_iadd hx hb dX3_passSound_21 ?_
    refine lv_topi (fun v_6 e_6 => ?_)
    refine lv_istore_n (lv' := [(3, .int v_6), (0, .ref h), (1, .int (nI i)), (2, .int n)]) hx hb dX3_passSound_22 rfl hl (by decide) rfl (fun ls hl => ?_)
    refine lv_aload_n hx hb dX3_passSound_23 rfl (lv_at hl 1 rfl) ?_
    refine lv_iload_n hx hb dX3_passSound_24 rfl (lv_at hl 2 rfl) ?_
    have hPc_7 := hP
    refine vp_callSi (W.runV (As := [.int (nI i)]) (rest := []) ⟨hx, hb, hml, hown, hts⟩ (r_X3_loudBehindHour l dC dI cI cZ cL cJ h v0 v1 v2 v3 v5 hh ww kk b1 b2 b3 b4 b5 g1 g2 g3 g4 g5 i (hhb) (hww) (hkk) (by omega)) (cwV 1 hts gX3_passSound_X3_loudBehindHour rfl rfl rfl (by decide +kernel) ⟨Nat.le_of_ble_eq_true rfl, Nat.le_of_ble_eq_true rfl⟩) (pvP 3 0 hK hP rfl rfl hPc_7) rfl rfl hl.1 rfl (lv_room (Nat.le_of_ble_eq_true rfl)) dX3_passSound_25 ⟨Nat.le_of_ble_eq_true rfl, Nat.le_of_ble_eq_true rfl⟩) (fun r_7 h_7 => ?_)
    refine lv_istore (lv' := [(4, .int r_7), (3, .int v_6), (0, .ref h), (1, .int (nI i)), (2, .int n)]) hx hb dX3_passSound_28 hl (by decide) rfl (fun ls hl => ?_)
    refine lv_aload_n hx hb dX3_passSound_30 rfl (lv_at hl 2 rfl) ?_
    refine lv_iload_n hx hb dX3_passSound_31 rfl (lv_at hl 1 rfl) ?_
    have hPc_8 := hP
    refine vp_callSi (W.runV (As := [.int v_6]) (rest := []) ⟨hx, hb, hml, hown, hts⟩ (r_X3_hasCell l dC dI cI cZ cL cJ h v0 v1 v2 v3 v5 hh ww kk b1 b2 b3 b4 b5 g1 g2 g3 g4 g5 v_6 (hhb) (hww) (hkk)) (cwV 1 hts gX3_passSound_X3_hasCell rfl rfl rfl (by decide +kernel) ⟨Nat.le_of_ble_eq_true rfl, Nat.le_of_ble_eq_true rfl⟩) (pvP 3 0 hK hP rfl rfl hPc_8) rfl rfl hl.1 rfl (lv_room (Nat.le_of_ble_eq_true rfl)) dX3_passSound_32 ⟨Nat.le_of_ble_eq_true rfl, Nat.le_of_ble_eq_true rfl⟩) (fun r_8 h_8 => ?_)
    rcases h_8 with ⟨h_8, f_8_0_0⟩ | ⟨h_8, f_8_1_0, f_8_1_1⟩
    · subst h_8
      refine lv_if_eq (tgt := 43) hx hb dX3_passSound_35 (by decide) (fun _ => ?_) (fun c_ => absurd (by decide) c_)
      refine lv_aload_n hx hb dX3_passSound_43 rfl (lv_at hl 2 rfl) ?_
      refine va_get (D := (dC, dI)) (ci := 3) (v := .ref b5) (C := RX3) (T := TX3) (N := 13) hx hb hts i_X3_passSound_X3 hown hK hP 0 rfl rfl 12 (by decide) (hts _ mx_X3_passSound_2) (fun _ h9 => h9) rfl dX3_passSound_44 ?_
      refine lv_iload_n hx hb dX3_passSound_47 rfl (lv_at hl 3 rfl) ?_
      refine lv_iconst (v := 2) hx hb dX3_passSound_48 (by decide) ?_
      refine va_iast hx hb hK hP hD hS 5 0 rfl rfl (vp_in_nI (by omega) (by omega)) dX3_passSound_49 (fun H locs hP hD hS => ?_)
      generalize hg_10 : upd g5 ((nI i) : Int32).toNatClampNeg 2 = g_10 at hP hD
      have hu_10 : g_10 = upd g5 i 2 := (by rw [← hg_10, nI_clamp (by omega)])
      have hP : va_P (dC, dI) vwCl [(xo_3_iiiiiiiirrrrr h v0 v1 v2 v3 (nI hh) v5 (nI ww) (nI kk) b1 b2 b3 b4 b5), (xI b1 cI 6 g1), (xI b2 cI 6 g2), (xI b3 cI 6 g3), (xI b4 cI 6 g4), (xI b5 cI 6 g_10)] H := hP
      have hD := dto hP hD
      have hX9 := cut2 (wc := [(xo_3_iiiiiiiirrrrr h v0 v1 v2 v3 (nI hh) v5 (nI ww) (nI kk) b1 b2 b3 b4 b5), (xI b1 cI 6 g1), (xI b2 cI 6 g2), (xI b3 cI 6 g3), (xI b4 cI 6 g4), (xI b5 cI 6 g_10)]) hP hD [0, 1, 2, 3, 4, 5] (by decide +kernel) rfl
      exact W.vret hx hb hr (fun t ht hW => ⟨⟨(), rfl, trivial, ⟨v5, g3, g4, g_10, va_Ht ht hX9.1, hX9.2, (lf_X3_passSound_2 hhb hww hkk hi f_1_1_0 e_4 h_5 e_6 h_7 f_8_0_0 hu_10)⟩⟩, hS.F ht⟩) hS.2.2 dX3_passSound_50
    · subst h_8
      refine lv_if_eq (tgt := 43) hx hb dX3_passSound_35 (by decide) (fun c_ => absurd c_ (by decide)) (fun _ => ?_)
      refine lv_iload hx hb dX3_passSound_38 (lv_at hl 0 rfl) ?_
      refine lv_if_gt (tgt := 51) hx hb dX3_passSound_40 (by decide) (fun c_12 => ?_) (fun c_12 => ?_)
      · skip
        refine lv_aload_n hx hb dX3_passSound_51 rfl (lv_at hl 2 rfl) ?_
        refine lv_iload_n hx hb dX3_passSound_52 rfl (lv_at hl 3 rfl) ?_
        refine lv_iload_n hx hb dX3_passSound_53 rfl (lv_at hl 1 rfl) ?_
        refine lv_iload hx hb dX3_passSound_54 (lv_at hl 0 rfl) ?_
        have hc_13 := cutW (wc := [(xo_3_iiiiiiiirrrrr h v0 v1 v2 v3 (nI hh) v5 (nI ww) (nI kk) b1 b2 b3 b4 b5), (xI b1 cI 6 g1), (xI b2 cI 6 g2), (xI b3 cI 6 g3), (xI b4 cI 6 g4), (xI b5 cI 6 g5)]) hP hD hS hA [0, 1, 2, 3, 4, 5] (by decide +kernel) rfl
        refine va_callv (va_runV (As := [.int (nI i), .int v_6, .int r_7]) (rest := []) ⟨hx, hb, hml, hown, hts⟩ (r_X3_letLoose l dC dI cI cZ cL cJ s.heap.size h v0 v1 v2 v3 v5 hh ww kk b1 b2 b3 b4 b5 g1 g2 g3 g4 g5 i v_6 r_7 (hhb) (hww) (hkk) (by omega)) (cwV 3 hts gX3_passSound_X3_letLoose rfl rfl rfl (by decide +kernel) ⟨Nat.le_of_ble_eq_true rfl, Nat.le_of_ble_eq_true rfl⟩) (pvW 3 0 hK hP rfl rfl hc_13) rfl rfl hl.1 rfl (lv_room (Nat.le_of_ble_eq_true rfl)) dX3_passSound_56 ⟨Nat.le_of_ble_eq_true rfl, Nat.le_of_ble_eq_true rfl⟩) hS (fun q _ h => hc_13.2.2 q h) hc_13.2.2 (fun u_13 t_13 H1 locs ht hvm h_13 hB hz1 hk1 hS => ?_)
        refine xl_3_5 hB (fun g3n_13 g4n_13 g5n_13 hP1 hD1 hF_13_0 hF_13_1 hF_13_2 => ?_)
        clear hB
        rw [ht] at hP1
        obtain ⟨hP, hD⟩ := va_join (wr := []) (w1 := [(xo_3_iiiiiiiirrrrr h v0 v1 v2 v3 (nI hh) v5 (nI ww) (nI kk) b1 b2 b3 b4 b5), (xI b1 cI 6 g1), (xI b2 cI 6 g2), (xI b3 cI 6 g3n_13), (xI b4 cI 6 g4n_13), (xI b5 cI 6 g5n_13)]) hP hD [0, 1, 2, 3, 4, 5] [] rfl rfl (by decide +kernel) (by decide +kernel) hk1 hc_13.2.2 hP1 hD1
        generalize H1 = H at hP hS ⊢
        have hP : va_P (dC, dI) vwCl [(xo_3_iiiiiiiirrrrr h v0 v1 v2 v3 (nI hh) v5 (nI ww) (nI kk) b1 b2 b3 b4 b5), (xI b1 cI 6 g1), (xI b2 cI 6 g2), (xI b3 cI 6 g3n_13), (xI b4 cI 6 g4n_13), (xI b5 cI 6 g5n_13)] H := hP
        have hD := dto hP hD
        refine lv_aload_n hx hb dX3_passSound_59 rfl (lv_at hl 2 rfl) ?_
        refine lv_iload_n hx hb dX3_passSound_60 rfl (lv_at hl 1 rfl) ?_
        refine lv_iload_n hx hb dX3_passSound_61 rfl (lv_at hl 4 rfl) ?_
        have hPc_14 := hP
        refine vp_callSi (W.runV (As := [.int v_6, .int n]) (rest := []) ⟨hx, hb, hml, hown, hts⟩ (r_X3_grindsAt l dC dI cI cZ cL cJ h v0 v1 v2 v3 v5 hh ww kk b1 b2 b3 b4 b5 g1 g2 g3n_13 g4n_13 g5n_13 v_6 n (hhb) (hww) (hkk)) (cwV 2 hts gX3_passSound_X3_grindsAt rfl rfl rfl (by decide +kernel) ⟨Nat.le_of_ble_eq_true rfl, Nat.le_of_ble_eq_true rfl⟩) (pvP 3 0 hK hP rfl rfl hPc_14) rfl rfl hl.1 rfl (lv_room (Nat.le_of_ble_eq_true rfl)) dX3_passSound_62 ⟨Nat.le_of_ble_eq_true rfl, Nat.le_of_ble_eq_true rfl⟩) (fun r_14 h_14 => ?_)
        rcases h_14 with ⟨h_14, f_14_0_0⟩ | ⟨h_14, f_14_1_0⟩
        · subst h_14
          refine lv_if_eq (tgt := 92) hx hb dX3_passSound_65 (by decide) (fun _ => ?_) (fun c_ => absurd (by decide) c_)
          have hX9 := cut2 (wc := [(xo_3_iiiiiiiirrrrr h v0 v1 v2 v3 (nI hh) v5 (nI ww) (nI kk) b1 b2 b3 b4 b5), (xI b1 cI 6 g1), (xI b2 cI 6 g2), (xI b3 cI 6 g3n_13), (xI b4 cI 6 g4n_13), (xI b5 cI 6 g5n_13)]) hP hD [0, 1, 2, 3, 4, 5] (by decide +kernel) rfl
          exact W.vret hx hb hr (fun t ht hW => ⟨⟨(), rfl, trivial, ⟨v5, g3n_13, g4n_13, g5n_13, va_Ht ht hX9.1, hX9.2, (lf_X3_passSound_3 hhb hww hkk hi f_1_1_0 e_4 h_5 e_6 h_7 f_8_1_0 f_8_1_1 c_12 hF_13_0 hF_13_1 hF_13_2 f_14_0_0)⟩⟩, hS.F ht⟩) hS.2.2 dX3_passSound_92
        · subst h_14
          refine lv_if_eq (tgt := 92) hx hb dX3_passSound_65 (by decide) (fun c_ => absurd c_ (by decide)) (fun _ => ?_)
          refine lv_aload_n hx hb dX3_passSound_68 rfl (lv_at hl 2 rfl) ?_
          refine va_get (D := (dC, dI)) (ci := 3) (v := .ref b5) (C := RX3) (T := TX3) (N := 13) hx hb hts i_X3_passSound_X3 hown hK hP 0 rfl rfl 12 (by decide) (hts _ mx_X3_passSound_2) (fun _ h9 => h9) rfl dX3_passSound_69 ?_
          refine lv_iload_n hx hb dX3_passSound_72 rfl (lv_at hl 3 rfl) ?_
          refine lv_iconst (v := 1) hx hb dX3_passSound_73 (by decide) ?_
          refine va_iast hx hb hK hP hD hS 5 0 rfl rfl (vp_in_nI (by omega) (by omega)) dX3_passSound_74 (fun H locs hP hD hS => ?_)
          generalize hg_17 : upd g5n_13 ((nI i) : Int32).toNatClampNeg 1 = g_17 at hP hD
          have hu_17 : g_17 = upd g5n_13 i 1 := (by rw [← hg_17, nI_clamp (by omega)])
          have hP : va_P (dC, dI) vwCl [(xo_3_iiiiiiiirrrrr h v0 v1 v2 v3 (nI hh) v5 (nI ww) (nI kk) b1 b2 b3 b4 b5), (xI b1 cI 6 g1), (xI b2 cI 6 g2), (xI b3 cI 6 g3n_13), (xI b4 cI 6 g4n_13), (xI b5 cI 6 g_17)] H := hP
          have hD := dto hP hD
          refine lv_aload_n hx hb dX3_passSound_75 rfl (lv_at hl 2 rfl) ?_
          refine lv_aload_n hx hb dX3_passSound_76 rfl (lv_at hl 2 rfl) ?_
          refine va_get (D := (dC, dI)) (ci := 3) (v := .int v5) (C := RX3) (T := TX3) (N := 13) hx hb hts i_X3_passSound_X3 hown hK hP 0 rfl rfl 5 (by decide) (hts _ mx_X3_passSound_3) (fun _ h9 => h9) rfl dX3_passSound_77 ?_
          refine lv_iload hx hb dX3_passSound_80 (lv_at hl 0 rfl) ?_
          refine lv_iadd hx hb dX3_passSound_82 ?_
          refine lv_topi (fun v_18 e_18 => ?_)
          refine lv_sipush (v := 999) hx hb dX3_passSound_83 (by decide) ?_
          refine va_mmin hx hb (by rw [hml]; exact hl.1.symm) hown (hts _ mx_X3_passSound_4) (hts _ mx_X3_passSound_5) (hts _ mx_X3_passSound_6) (hts _ mx_X3_passSound_7) (Nat.le_of_ble_eq_true rfl) (Nat.le_of_ble_eq_true rfl) (Nat.zero_le _) (Nat.zero_le _) dX3_passSound_86 ?_
          refine lv_topi (fun v_19 e_19 => ?_)
          refine va_put (D := (dC, dI)) (ci := 3) (v := .int v_19) (ty := .int) (C := RX3) (T := TX3) (N := 13) hx hb hts i_X3_passSound_X3 tyX3 tyX3_ok nmX3 hown hK hP hD hS 0 rfl rfl 5 (by decide) (hts _ mx_X3_passSound_3) (fun _ h9 => h9) rfl (by decide +kernel) rfl rfl (Nat.le_of_ble_eq_true rfl) dX3_passSound_89 (fun H locs hP hD hS => ?_)
          have hP : va_P (dC, dI) vwCl [(xo_3_iiiiiiiirrrrr h v0 v1 v2 v3 (nI hh) v_19 (nI ww) (nI kk) b1 b2 b3 b4 b5), (xI b1 cI 6 g1), (xI b2 cI 6 g2), (xI b3 cI 6 g3n_13), (xI b4 cI 6 g4n_13), (xI b5 cI 6 g_17)] H := hP
          have hD := dto hP hD
          have hX9 := cut2 (wc := [(xo_3_iiiiiiiirrrrr h v0 v1 v2 v3 (nI hh) v_19 (nI ww) (nI kk) b1 b2 b3 b4 b5), (xI b1 cI 6 g1), (xI b2 cI 6 g2), (xI b3 cI 6 g3n_13), (xI b4 cI 6 g4n_13), (xI b5 cI 6 g_17)]) hP hD [0, 1, 2, 3, 4, 5] (by decide +kernel) rfl
          exact W.vret hx hb hr (fun t ht hW => ⟨⟨(), rfl, trivial, ⟨v_19, g3n_13, g4n_13, g_17, va_Ht ht hX9.1, hX9.2, (lf_X3_passSound_4 hhb hww hkk hi f_1_1_0 e_4 h_5 e_6 h_7 f_8_1_0 f_8_1_1 c_12 hF_13_0 hF_13_1 hF_13_2 f_14_1_0 hu_17 e_18 e_19)⟩⟩, hS.F ht⟩) hS.2.2 dX3_passSound_92
      · skip
        refine lv_aload_n hx hb dX3_passSound_43 rfl (lv_at hl 2 rfl) ?_
        refine va_get (D := (dC, dI)) (ci := 3) (v := .ref b5) (C := RX3) (T := TX3) (N := 13) hx hb hts i_X3_passSound_X3 hown hK hP 0 rfl rfl 12 (by decide) (hts _ mx_X3_passSound_2) (fun _ h9 => h9) rfl dX3_passSound_44 ?_
        refine lv_iload_n hx hb dX3_passSound_47 rfl (lv_at hl 3 rfl) ?_
        refine lv_iconst (v := 2) hx hb dX3_passSound_48 (by decide) ?_
        refine va_iast hx hb hK hP hD hS 5 0 rfl rfl (vp_in_nI (by omega) (by omega)) dX3_passSound_49 (fun H locs hP hD hS => ?_)
        generalize hg_20 : upd g5 ((nI i) : Int32).toNatClampNeg 2 = g_20 at hP hD
        have hu_20 : g_20 = upd g5 i 2 := (by rw [← hg_20, nI_clamp (by omega)])
        have hP : va_P (dC, dI) vwCl [(xo_3_iiiiiiiirrrrr h v0 v1 v2 v3 (nI hh) v5 (nI ww) (nI kk) b1 b2 b3 b4 b5), (xI b1 cI 6 g1), (xI b2 cI 6 g2), (xI b3 cI 6 g3), (xI b4 cI 6 g4), (xI b5 cI 6 g_20)] H := hP
        have hD := dto hP hD
        have hX9 := cut2 (wc := [(xo_3_iiiiiiiirrrrr h v0 v1 v2 v3 (nI hh) v5 (nI ww) (nI kk) b1 b2 b3 b4 b5), (xI b1 cI 6 g1), (xI b2 cI 6 g2), (xI b3 cI 6 g3), (xI b4 cI 6 g4), (xI b5 cI 6 g_20)]) hP hD [0, 1, 2, 3, 4, 5] (by decide +kernel) rfl
        exact W.vret hx hb hr (fun t ht hW => ⟨⟨(), rfl, trivial, ⟨v5, g3, g4, g_20, va_Ht ht hX9.1, hX9.2, (lf_X3_passSound_5 hhb hww hkk hi f_1_1_0 e_4 h_5 e_6 h_7 f_8_1_0 f_8_1_1 c_12 hu_20)⟩⟩, hS.F ht⟩) hS.2.2 dX3_passSound_50
theorem lf_X3_pass_1 {v0 : Int32} {v1 : Int32} {v2 : Int32} {v3 : Int32} {v5 : Int32} {hh : Nat} {ww : Nat} {kk : Nat} {g1 : Nat → Int32} {g2 : Nat → Int32} {g3 : Nat → Int32} {g4 : Nat → Int32} {g5 : Nat → Int32} {r_1 : Int32} {w_4 : Int32} {w_5 : Nat → Int32} {w_6 : Nat → Int32} {w_7 : Nat → Int32} {ii : Nat} {v5n_15 : Int32} {g3n_15 : Nat → Int32} {g4n_15 : Nat → Int32} {g5n_15 : Nat → Int32} (hhb : hh < 2000000000) (hww : ww ≤ 6) (hkk : kk ≤ 6) (h_1 : r_1 = (wdX g1 ww hh 0)) (hii : ii < kk) (haf_0 : (paX v0 v1 v2 v3 g2 (wdX g1 ww hh 0) ii (v5, g3, g4, g5) = (w_4, w_5, w_6, w_7))) (hF_15_0 : psX v0 v1 v2 v3 g2 ii r_1 (w_4, w_5, w_6, w_7) = (v5n_15, g3n_15, g4n_15, g5n_15)) : paX v0 v1 v2 v3 g2 (wdX g1 ww hh 0) (ii + 1) (v5, g3, g4, g5) = (v5n_15, g3n_15, g4n_15, g5n_15) := by
  first | assumption | (simp only [paX]; grind) | grind
theorem lf_X3_pass_2 {v0 : Int32} {v1 : Int32} {v2 : Int32} {v3 : Int32} {v5 : Int32} {hh : Nat} {ww : Nat} {kk : Nat} {g1 : Nat → Int32} {g2 : Nat → Int32} {g3 : Nat → Int32} {g4 : Nat → Int32} {g5 : Nat → Int32} {r_1 : Int32} {w_4 : Int32} {w_5 : Nat → Int32} {w_6 : Nat → Int32} {w_7 : Nat → Int32} (hhb : hh < 2000000000) (hww : ww ≤ 6) (hkk : kk ≤ 6) (h_1 : r_1 = (wdX g1 ww hh 0)) (haf_0 : (paX v0 v1 v2 v3 g2 (wdX g1 ww hh 0) kk (v5, g3, g4, g5) = (w_4, w_5, w_6, w_7))) : paX v0 v1 v2 v3 g2 (wdX g1 ww hh 0) kk (v5, g3, g4, g5) = (w_4, w_5, w_6, w_7) := by
  first | assumption | (simp only [paX]; grind) | grind
set_option maxHeartbeats 4000000 in
set_option maxRecDepth 100000 in
theorem r_X3_pass (l : Launch) (dC : Nat → ClassId) (dI : Nat → Nat → Nat) (cI cZ cL cJ : ClassId) (sz : Nat) (h : Nat) (v0 : Int32) (v1 : Int32) (v2 : Int32) (v3 : Int32) (v5 : Int32) (hh : Nat) (ww : Nat) (kk : Nat) (b1 : Nat) (b2 : Nat) (b3 : Nat) (b4 : Nat) (b5 : Nat) (g1 : Nat → Int32) (g2 : Nat → Int32) (g3 : Nat → Int32) (g4 : Nat → Int32) (g5 : Nat → Int32) (hhb : hh < 2000000000) (hww : ww ≤ 6) (hkk : kk ≤ 6) : Met l yX3_pass wsX3_pass ({ frames := 3, cells := 0, slots := 0, locals := 66 }) (va_Pc [.ref h] (fun U => U.heap.size = sz ∧ va_P (dC, dI) vwCl [(xo_3_iiiiiiiirrrrr h v0 v1 v2 v3 (nI hh) v5 (nI ww) (nI kk) b1 b2 b3 b4 b5), (xI b1 cI 6 g1), (xI b2 cI 6 g2), (xI b3 cI 6 g3), (xI b4 cI 6 g4), (xI b5 cI 6 g5)] U.heap ∧ va_K (dC, dI) vwCl [(cI, .int), (cZ, .boolean), (cL, .object RX3), (cJ, .array .int)] U ∧ va_D (fun _ => True) [(xo_3_iiiiiiiirrrrr h v0 v1 v2 v3 (nI hh) v5 (nI ww) (nI kk) b1 b2 b3 b4 b5), (xI b1 cI 6 g1), (xI b2 cI 6 g2), (xI b3 cI 6 g3), (xI b4 cI 6 g4), (xI b5 cI 6 g5)])) (va_Qv (fun (_ : Unit) => True) (fun (_ : Unit) t => ∃ (v5n : Int32) (g3n : Nat → Int32) (g4n : Nat → Int32) (g5n : Nat → Int32), va_P (dC, dI) vwCl [(xo_3_iiiiiiiirrrrr h v0 v1 v2 v3 (nI (hh + 1)) v5n (nI ww) (nI kk) b1 b2 b3 b4 b5), (xI b1 cI 6 g1), (xI b2 cI 6 g2), (xI b3 cI 6 g3n), (xI b4 cI 6 g4n), (xI b5 cI 6 g5n)] t.heap ∧ va_D (va_A [(xo_3_iiiiiiiirrrrr h v0 v1 v2 v3 (nI hh) v5 (nI ww) (nI kk) b1 b2 b3 b4 b5), (xI b1 cI 6 g1), (xI b2 cI 6 g2), (xI b3 cI 6 g3), (xI b4 cI 6 g4), (xI b5 cI 6 g5)] sz) [(xo_3_iiiiiiiirrrrr h v0 v1 v2 v3 (nI (hh + 1)) v5n (nI ww) (nI kk) b1 b2 b3 b4 b5), (xI b1 cI 6 g1), (xI b2 cI 6 g2), (xI b3 cI 6 g3n), (xI b4 cI 6 g4n), (xI b5 cI 6 g5n)] ∧ paX v0 v1 v2 v3 g2 (wdX g1 ww hh 0) kk (v5, g3, g4, g5) = (v5n, g3n, g4n, g5n)) (va_A [(xo_3_iiiiiiiirrrrr h v0 v1 v2 v3 (nI hh) v5 (nI ww) (nI kk) b1 b2 b3 b4 b5), (xI b1 cI 6 g1), (xI b2 cI 6 g2), (xI b3 cI 6 g3), (xI b4 cI 6 g4), (xI b5 cI 6 g5)] sz)) 0 0 (va_A [(xo_3_iiiiiiiirrrrr h v0 v1 v2 v3 (nI hh) v5 (nI ww) (nI kk) b1 b2 b3 b4 b5), (xI b1 cI 6 g1), (xI b2 cI 6 g2), (xI b3 cI 6 g3), (xI b4 cI 6 g4), (xI b5 cI 6 g5)] sz) := by
  refine Met.ofW (cc := cX3_pass) (maxL := 3) (ret := none) (by decide) rfl ?_
  intro p e s m args below meth c s₁ B hml hv
  obtain ⟨rfl, hsz, hP, hK, hD0⟩ := hv
  have hx := B.exec
  have hb := B.bytes
  have hr := B.returns
  have hts := atoms_spec (ws := wsX3_pass) B.pre
  have hown : s.vm.findClass RX3 = some m.cls := findClass_of_methodNamed B.named
  have hlocks := B.notSynchronized
  subst hsz
  have hD := hD0.self (sz := s.heap.size)
  generalize hAe : va_A [(xo_3_iiiiiiiirrrrr h v0 v1 v2 v3 (nI hh) v5 (nI ww) (nI kk) b1 b2 b3 b4 b5), (xI b1 cI 6 g1), (xI b2 cI 6 g2), (xI b3 cI 6 g3), (xI b4 cI 6 g4), (xI b5 cI 6 g5)] s.heap.size = A at hD ⊢
  have hA : ∀ q : Nat, s.heap.size ≤ q → A q := fun q h => by rw [← hAe]; exact Or.inr h
  have hS : va_S A s.heap s.heap [] := va_S.rf
  have hP : va_P (dC, dI) vwCl [(xo_3_iiiiiiiirrrrr h v0 v1 v2 v3 (nI hh) v5 (nI ww) (nI kk) b1 b2 b3 b4 b5), (xI b1 cI 6 g1), (xI b2 cI 6 g2), (xI b3 cI 6 g3), (xI b4 cI 6 g4), (xI b5 cI 6 g5)] s.heap := hP
  have hl := lv_entry ([.ref h]) (n := 3) (Nat.le_of_ble_eq_true rfl)
  rw [lg_entry_eq]
  generalize (lg_sl ([.ref h]) ++ List.replicate (3 - (lg_sl ([.ref h])).length) Slot.unset).toArray = ls at hl ⊢
  have hl : lv_has ls 3 [(0, .ref h)] := hl
  refine lv_aload_n hx hb dX3_pass_0 rfl (lv_at hl 0 rfl) ?_
  refine lv_iconst (v := 0) hx hb dX3_pass_1 (by decide) ?_
  have hPc_1 := hP
  refine vp_callSi (W.runV (As := [.int 0]) (rest := []) ⟨hx, hb, hml, hown, hts⟩ (r_X3_windOn l dC dI cI cZ cL cJ h v0 v1 v2 v3 v5 hh ww kk b1 b2 b3 b4 b5 g1 g2 g3 g4 g5 0 (hhb) (hww) (hkk) (by omega)) (cwV 1 hts gX3_pass_X3_windOn rfl rfl rfl (by decide +kernel) ⟨Nat.le_of_ble_eq_true rfl, Nat.le_of_ble_eq_true rfl⟩) (pvP 3 0 hK hP rfl rfl hPc_1) rfl rfl hl.1 rfl (lv_room (Nat.le_of_ble_eq_true rfl)) dX3_pass_2 ⟨Nat.le_of_ble_eq_true rfl, Nat.le_of_ble_eq_true rfl⟩) (fun r_1 h_1 => ?_)
  refine lv_istore_n (lv' := [(1, .int r_1), (0, .ref h)]) hx hb dX3_pass_5 rfl hl (by decide) rfl (fun ls hl => ?_)
  refine lv_iconst (v := 0) hx hb dX3_pass_6 (by decide) ?_
  refine lv_istore_n (lv' := [(2, .int 0), (1, .int r_1), (0, .ref h)]) hx hb dX3_pass_7 rfl hl (by decide) rfl (fun ls hl => ?_)
  refine lp_go (σ := (Int32) × (Nat → Int32) × (Nat → Int32) × (Nat → Int32)) (fun ii (st : (Int32) × (Nat → Int32) × (Nat → Int32) × (Nat → Int32)) H locs ls => match st with | (w_4, w_5, w_6, w_7) => lv_has ls 3 [(2, .int (nI ii)), (1, .int r_1), (0, .ref h)] ∧ va_P (dC, dI) vwCl [(xo_3_iiiiiiiirrrrr h v0 v1 v2 v3 (nI hh) w_4 (nI ww) (nI kk) b1 b2 b3 b4 b5), (xI b1 cI 6 g1), (xI b2 cI 6 g2), (xI b3 cI 6 w_5), (xI b4 cI 6 w_6), (xI b5 cI 6 w_7)] H ∧ va_D A [(xo_3_iiiiiiiirrrrr h v0 v1 v2 v3 (nI hh) w_4 (nI ww) (nI kk) b1 b2 b3 b4 b5), (xI b1 cI 6 g1), (xI b2 cI 6 g2), (xI b3 cI 6 w_5), (xI b4 cI 6 w_6), (xI b5 cI 6 w_7)] ∧ va_S A s.heap H locs ∧ (paX v0 v1 v2 v3 g2 (wdX g1 ww hh 0) ii (v5, g3, g4, g5) = (w_4, w_5, w_6, w_7))) kk ?_ ?_ 0 (by omega) (v5, g3, g4, g5) ⟨lv_sub hl [0, 1, 2] rfl, hP.sub (ws' := [(xo_3_iiiiiiiirrrrr h v0 v1 v2 v3 (nI hh) v5 (nI ww) (nI kk) b1 b2 b3 b4 b5), (xI b1 cI 6 g1), (xI b2 cI 6 g2), (xI b3 cI 6 g3), (xI b4 cI 6 g4), (xI b5 cI 6 g5)]) [0, 1, 2, 3, 4, 5] rfl, hD.sub (ws' := [(xo_3_iiiiiiiirrrrr h v0 v1 v2 v3 (nI hh) v5 (nI ww) (nI kk) b1 b2 b3 b4 b5), (xI b1 cI 6 g1), (xI b2 cI 6 g2), (xI b3 cI 6 g3), (xI b4 cI 6 g4), (xI b5 cI 6 g5)]) [0, 1, 2, 3, 4, 5] (by decide +kernel) rfl, hS, rfl⟩
  · rintro ii ⟨w_4, w_5, w_6, w_7⟩ H locs ls hii ⟨hl, hP, hD, hS, haf_0⟩ ih
    refine lv_iload_n hx hb dX3_pass_8 rfl (lv_at hl 0 rfl) ?_
    refine lv_aload_n hx hb dX3_pass_9 rfl (lv_at hl 2 rfl) ?_
    refine va_get (D := (dC, dI)) (ci := 3) (v := .int (nI kk)) (C := RX3) (T := TX3) (N := 13) hx hb hts i_X3_pass_X3 hown hK hP 0 rfl rfl 7 (by decide) (hts _ mx_X3_pass_1) (fun _ h9 => h9) rfl dX3_pass_10 ?_
    refine lv_icmp_ge (tgt := 28) hx hb dX3_pass_13 (by decide) (fun c_ => absurd c_ (fun q_ => absurd ((nI_leI (a := kk) (b := ii) (by omega) (by omega)).mp q_) (by omega))) (fun _ => ?_)
    refine lv_aload_n hx hb dX3_pass_16 rfl (lv_at hl 2 rfl) ?_
    refine lv_iload_n hx hb dX3_pass_17 rfl (lv_at hl 0 rfl) ?_
    refine lv_iload_n hx hb dX3_pass_18 rfl (lv_at hl 1 rfl) ?_
    have hc_15 := cutW (wc := [(xo_3_iiiiiiiirrrrr h v0 v1 v2 v3 (nI hh) w_4 (nI ww) (nI kk) b1 b2 b3 b4 b5), (xI b1 cI 6 g1), (xI b2 cI 6 g2), (xI b3 cI 6 w_5), (xI b4 cI 6 w_6), (xI b5 cI 6 w_7)]) hP hD hS hA [0, 1, 2, 3, 4, 5] (by decide +kernel) rfl
    refine va_callv (va_runV (As := [.int (nI ii), .int r_1]) (rest := []) ⟨hx, hb, hml, hown, hts⟩ (r_X3_passSound l dC dI cI cZ cL cJ H.size h v0 v1 v2 v3 w_4 hh ww kk b1 b2 b3 b4 b5 g1 g2 w_5 w_6 w_7 ii r_1 (hhb) (hww) (hkk) (by omega)) (cwV 2 hts gX3_pass_X3_passSound rfl rfl rfl (by decide +kernel) ⟨Nat.le_of_ble_eq_true rfl, Nat.le_of_ble_eq_true rfl⟩) (pvW 3 0 hK hP rfl rfl hc_15) rfl rfl hl.1 rfl (lv_room (Nat.le_of_ble_eq_true rfl)) dX3_pass_19 ⟨Nat.le_of_ble_eq_true rfl, Nat.le_of_ble_eq_true rfl⟩) hS (fun q _ h => hc_15.2.2 q h) hc_15.2.2 (fun u_15 t_15 H1 locs ht hvm h_15 hB hz1 hk1 hS => ?_)
    refine xl_4_3 hB (fun v5n_15 g3n_15 g4n_15 g5n_15 hP1 hD1 hF_15_0 => ?_)
    clear hB
    rw [ht] at hP1
    obtain ⟨hP, hD⟩ := va_join (wr := []) (w1 := [(xo_3_iiiiiiiirrrrr h v0 v1 v2 v3 (nI hh) v5n_15 (nI ww) (nI kk) b1 b2 b3 b4 b5), (xI b1 cI 6 g1), (xI b2 cI 6 g2), (xI b3 cI 6 g3n_15), (xI b4 cI 6 g4n_15), (xI b5 cI 6 g5n_15)]) hP hD [0, 1, 2, 3, 4, 5] [] rfl rfl (by decide +kernel) (by decide +kernel) hk1 hc_15.2.2 hP1 hD1
    generalize H1 = H at hP hS ⊢
    have hP : va_P (dC, dI) vwCl [(xo_3_iiiiiiiirrrrr h v0 v1 v2 v3 (nI hh) v5n_15 (nI ww) (nI kk) b1 b2 b3 b4 b5), (xI b1 cI 6 g1), (xI b2 cI 6 g2), (xI b3 cI 6 g3n_15), (xI b4 cI 6 g4n_15), (xI b5 cI 6 g5n_15)] H := hP
    have hD := dto hP hD
    refine lv_iinc (v := (nI (ii + 1))) (lv' := [(2, .int (nI (ii + 1))), (1, .int r_1), (0, .ref h)]) hx hb dX3_pass_22 hl (k := 0) rfl (nI_add ii 1) (by decide) rfl (fun ls hl => ?_)
    refine lv_goto (tgt := 8) hx hb dX3_pass_25 (by decide) ?_
    exact ih (v5n_15, g3n_15, g4n_15, g5n_15) _ _ _ ⟨lv_sub hl [0, 1, 2] rfl, hP.sub (ws' := [(xo_3_iiiiiiiirrrrr h v0 v1 v2 v3 (nI hh) v5n_15 (nI ww) (nI kk) b1 b2 b3 b4 b5), (xI b1 cI 6 g1), (xI b2 cI 6 g2), (xI b3 cI 6 g3n_15), (xI b4 cI 6 g4n_15), (xI b5 cI 6 g5n_15)]) [0, 1, 2, 3, 4, 5] rfl, hD.sub (ws' := [(xo_3_iiiiiiiirrrrr h v0 v1 v2 v3 (nI hh) v5n_15 (nI ww) (nI kk) b1 b2 b3 b4 b5), (xI b1 cI 6 g1), (xI b2 cI 6 g2), (xI b3 cI 6 g3n_15), (xI b4 cI 6 g4n_15), (xI b5 cI 6 g5n_15)]) [0, 1, 2, 3, 4, 5] (by decide +kernel) rfl, hS, (lf_X3_pass_1 hhb hww hkk h_1 hii haf_0 hF_15_0)⟩
  · rintro ⟨w_4, w_5, w_6, w_7⟩ H locs ls ⟨hl, hP, hD, hS, haf_0⟩
    refine lv_iload_n hx hb dX3_pass_8 rfl (lv_at hl 0 rfl) ?_
    refine lv_aload_n hx hb dX3_pass_9 rfl (lv_at hl 2 rfl) ?_
    refine va_get (D := (dC, dI)) (ci := 3) (v := .int (nI kk)) (C := RX3) (T := TX3) (N := 13) hx hb hts i_X3_pass_X3 hown hK hP 0 rfl rfl 7 (by decide) (hts _ mx_X3_pass_1) (fun _ h9 => h9) rfl dX3_pass_10 ?_
    refine lv_icmp_ge (tgt := 28) hx hb dX3_pass_13 (by decide) (fun _ => ?_) (fun c_ => absurd ((nI_leI (a := kk) (b := kk) (by omega) (by omega)).mpr (by omega)) c_)
    refine lv_aload_n hx hb dX3_pass_28 rfl (lv_at hl 2 rfl) ?_
    refine lv_dup hx hb dX3_pass_29 rfl ?_
    refine va_get (D := (dC, dI)) (ci := 3) (v := .int (nI hh)) (C := RX3) (T := TX3) (N := 13) hx hb hts i_X3_pass_X3 hown hK hP 0 rfl rfl 4 (by decide) (hts _ mx_X3_pass_2) (fun _ h9 => h9) rfl dX3_pass_30 ?_
    refine lv_iconst (v := 1) hx hb dX3_pass_33 (by decide) ?_
    refine lv_iadd hx hb dX3_pass_34 ?_
    refine lv_topi (fun v_17 e_17 => ?_)
    obtain rfl : v_17 = (nI (hh + 1)) := (e_17).trans (nI_add hh 1)
    refine va_put (D := (dC, dI)) (ci := 3) (v := .int (nI (hh + 1))) (ty := .int) (C := RX3) (T := TX3) (N := 13) hx hb hts i_X3_pass_X3 tyX3 tyX3_ok nmX3 hown hK hP hD hS 0 rfl rfl 4 (by decide) (hts _ mx_X3_pass_2) (fun _ h9 => h9) rfl (by decide +kernel) rfl rfl (Nat.le_of_ble_eq_true rfl) dX3_pass_35 (fun H locs hP hD hS => ?_)
    have hP : va_P (dC, dI) vwCl [(xo_3_iiiiiiiirrrrr h v0 v1 v2 v3 (nI (hh + 1)) w_4 (nI ww) (nI kk) b1 b2 b3 b4 b5), (xI b1 cI 6 g1), (xI b2 cI 6 g2), (xI b3 cI 6 w_5), (xI b4 cI 6 w_6), (xI b5 cI 6 w_7)] H := hP
    have hD := dto hP hD
    have hX9 := cut2 (wc := [(xo_3_iiiiiiiirrrrr h v0 v1 v2 v3 (nI (hh + 1)) w_4 (nI ww) (nI kk) b1 b2 b3 b4 b5), (xI b1 cI 6 g1), (xI b2 cI 6 g2), (xI b3 cI 6 w_5), (xI b4 cI 6 w_6), (xI b5 cI 6 w_7)]) hP hD [0, 1, 2, 3, 4, 5] (by decide +kernel) rfl
    exact W.vret hx hb hr (fun t ht hW => ⟨⟨(), rfl, trivial, ⟨w_4, w_5, w_6, w_7, va_Ht ht hX9.1, hX9.2, (lf_X3_pass_2 hhb hww hkk h_1 haf_0)⟩⟩, hS.F ht⟩) hS.2.2 dX3_pass_38
theorem lf_X3_passOnly_1 {v0 : Int32} {v1 : Int32} {v2 : Int32} {v3 : Int32} {v5 : Int32} {hh : Nat} {ww : Nat} {kk : Nat} {g1 : Nat → Int32} {g2 : Nat → Int32} {g3 : Nat → Int32} {g4 : Nat → Int32} {g5 : Nat → Int32} {i : Nat} {j : Nat} {w_5 : Int32} {w_6 : Nat → Int32} {w_7 : Nat → Int32} {w_8 : Nat → Int32} {ii : Nat} {r_18 : Int32} {v5n_19 : Int32} {g3n_19 : Nat → Int32} {g4n_19 : Nat → Int32} {g5n_19 : Nat → Int32} (hhb : hh < 1999999000) (hww : ww ≤ 6) (hkk : kk ≤ 6) (hi : i < 6) (hj : j ≤ 900) (hii : ii < j) (haf_0 : (poX v0 v1 v2 v3 g1 ww hh g2 i ii (v5, g3, g4, g5) = (w_5, w_6, w_7, w_8))) (h_18 : r_18 = (wdX g1 ww (hh + ii) 0)) (hF_19_0 : psX v0 v1 v2 v3 g2 i r_18 (w_5, w_6, w_7, w_8) = (v5n_19, g3n_19, g4n_19, g5n_19)) : poX v0 v1 v2 v3 g1 ww hh g2 i (ii + 1) (v5, g3, g4, g5) = (v5n_19, g3n_19, g4n_19, g5n_19) := by
  first | assumption | (simp only [poX]; grind) | grind
theorem lf_X3_passOnly_2 {v0 : Int32} {v1 : Int32} {v2 : Int32} {v3 : Int32} {v5 : Int32} {hh : Nat} {ww : Nat} {kk : Nat} {g1 : Nat → Int32} {g2 : Nat → Int32} {g3 : Nat → Int32} {g4 : Nat → Int32} {g5 : Nat → Int32} {i : Nat} {j : Nat} {w_5 : Int32} {w_6 : Nat → Int32} {w_7 : Nat → Int32} {w_8 : Nat → Int32} (hhb : hh < 1999999000) (hww : ww ≤ 6) (hkk : kk ≤ 6) (hi : i < 6) (hj : j ≤ 900) (haf_0 : (poX v0 v1 v2 v3 g1 ww hh g2 i j (v5, g3, g4, g5) = (w_5, w_6, w_7, w_8))) : poX v0 v1 v2 v3 g1 ww hh g2 i j (v5, g3, g4, g5) = (w_5, w_6, w_7, w_8) := by
  first | assumption | (simp only [poX]; grind) | grind
set_option maxHeartbeats 4000000 in
set_option maxRecDepth 100000 in
theorem r_X3_passOnly (l : Launch) (dC : Nat → ClassId) (dI : Nat → Nat → Nat) (cI cZ cL cJ : ClassId) (sz : Nat) (h : Nat) (v0 : Int32) (v1 : Int32) (v2 : Int32) (v3 : Int32) (v5 : Int32) (hh : Nat) (ww : Nat) (kk : Nat) (b1 : Nat) (b2 : Nat) (b3 : Nat) (b4 : Nat) (b5 : Nat) (g1 : Nat → Int32) (g2 : Nat → Int32) (g3 : Nat → Int32) (g4 : Nat → Int32) (g5 : Nat → Int32) (i : Nat) (j : Nat) (hhb : hh < 1999999000) (hww : ww ≤ 6) (hkk : kk ≤ 6) (hi : i < 6) (hj : j ≤ 900) : Met l yX3_passOnly wsX3_passOnly ({ frames := 3, cells := 0, slots := 0, locals := 66 }) (va_Pc [.ref h, .int (nI i), .int (nI j)] (fun U => U.heap.size = sz ∧ va_P (dC, dI) vwCl [(xo_3_iiiiiiiirrrrr h v0 v1 v2 v3 (nI hh) v5 (nI ww) (nI kk) b1 b2 b3 b4 b5), (xI b1 cI 6 g1), (xI b2 cI 6 g2), (xI b3 cI 6 g3), (xI b4 cI 6 g4), (xI b5 cI 6 g5)] U.heap ∧ va_K (dC, dI) vwCl [(cI, .int), (cZ, .boolean), (cL, .object RX3), (cJ, .array .int)] U ∧ va_D (fun _ => True) [(xo_3_iiiiiiiirrrrr h v0 v1 v2 v3 (nI hh) v5 (nI ww) (nI kk) b1 b2 b3 b4 b5), (xI b1 cI 6 g1), (xI b2 cI 6 g2), (xI b3 cI 6 g3), (xI b4 cI 6 g4), (xI b5 cI 6 g5)])) (va_Qv (fun (_ : Unit) => True) (fun (_ : Unit) t => ∃ (v5n : Int32) (g3n : Nat → Int32) (g4n : Nat → Int32) (g5n : Nat → Int32), va_P (dC, dI) vwCl [(xo_3_iiiiiiiirrrrr h v0 v1 v2 v3 (nI (hh + j)) v5n (nI ww) (nI kk) b1 b2 b3 b4 b5), (xI b1 cI 6 g1), (xI b2 cI 6 g2), (xI b3 cI 6 g3n), (xI b4 cI 6 g4n), (xI b5 cI 6 g5n)] t.heap ∧ va_D (va_A [(xo_3_iiiiiiiirrrrr h v0 v1 v2 v3 (nI hh) v5 (nI ww) (nI kk) b1 b2 b3 b4 b5), (xI b1 cI 6 g1), (xI b2 cI 6 g2), (xI b3 cI 6 g3), (xI b4 cI 6 g4), (xI b5 cI 6 g5)] sz) [(xo_3_iiiiiiiirrrrr h v0 v1 v2 v3 (nI (hh + j)) v5n (nI ww) (nI kk) b1 b2 b3 b4 b5), (xI b1 cI 6 g1), (xI b2 cI 6 g2), (xI b3 cI 6 g3n), (xI b4 cI 6 g4n), (xI b5 cI 6 g5n)] ∧ poX v0 v1 v2 v3 g1 ww hh g2 i j (v5, g3, g4, g5) = (v5n, g3n, g4n, g5n)) (va_A [(xo_3_iiiiiiiirrrrr h v0 v1 v2 v3 (nI hh) v5 (nI ww) (nI kk) b1 b2 b3 b4 b5), (xI b1 cI 6 g1), (xI b2 cI 6 g2), (xI b3 cI 6 g3), (xI b4 cI 6 g4), (xI b5 cI 6 g5)] sz)) 0 0 (va_A [(xo_3_iiiiiiiirrrrr h v0 v1 v2 v3 (nI hh) v5 (nI ww) (nI kk) b1 b2 b3 b4 b5), (xI b1 cI 6 g1), (xI b2 cI 6 g2), (xI b3 cI 6 g3), (xI b4 cI 6 g4), (xI b5 cI 6 g5)] sz) := by
  refine Met.ofW (cc := cX3_passOnly) (maxL := 4) (ret := none) (by decide) rfl ?_
  intro p e s m args below meth c s₁ B hml hv
  obtain ⟨rfl, hsz, hP, hK, hD0⟩ := hv
  have hx := B.exec
  have hb := B.bytes
  have hr := B.returns
  have hts := atoms_spec (ws := wsX3_passOnly) B.pre
  have hown : s.vm.findClass RX3 = some m.cls := findClass_of_methodNamed B.named
  have hlocks := B.notSynchronized
  subst hsz
  have hD := hD0.self (sz := s.heap.size)
  generalize hAe : va_A [(xo_3_iiiiiiiirrrrr h v0 v1 v2 v3 (nI hh) v5 (nI ww) (nI kk) b1 b2 b3 b4 b5), (xI b1 cI 6 g1), (xI b2 cI 6 g2), (xI b3 cI 6 g3), (xI b4 cI 6 g4), (xI b5 cI 6 g5)] s.heap.size = A at hD ⊢
  have hA : ∀ q : Nat, s.heap.size ≤ q → A q := fun q h => by rw [← hAe]; exact Or.inr h
  have hS : va_S A s.heap s.heap [] := va_S.rf
  have hP : va_P (dC, dI) vwCl [(xo_3_iiiiiiiirrrrr h v0 v1 v2 v3 (nI hh) v5 (nI ww) (nI kk) b1 b2 b3 b4 b5), (xI b1 cI 6 g1), (xI b2 cI 6 g2), (xI b3 cI 6 g3), (xI b4 cI 6 g4), (xI b5 cI 6 g5)] s.heap := hP
  have hl := lv_entry ([.ref h, .int (nI i), .int (nI j)]) (n := 4) (Nat.le_of_ble_eq_true rfl)
  rw [lg_entry_eq]
  generalize (lg_sl ([.ref h, .int (nI i), .int (nI j)]) ++ List.replicate (4 - (lg_sl ([.ref h, .int (nI i), .int (nI j)])).length) Slot.unset).toArray = ls at hl ⊢
  have hl : lv_has ls 4 [(0, .ref h), (1, .int (nI i)), (2, .int (nI j))] := hl
  refine lv_iconst (v := 0) hx hb dX3_passOnly_0 (by decide) ?_
  refine lv_istore_n (lv' := [(3, .int 0), (0, .ref h), (1, .int (nI i)), (2, .int (nI j))]) hx hb dX3_passOnly_1 rfl hl (by decide) rfl (fun ls hl => ?_)
  refine lp_go (σ := (Int32) × (Nat → Int32) × (Nat → Int32) × (Nat → Int32)) (fun ii (st : (Int32) × (Nat → Int32) × (Nat → Int32) × (Nat → Int32)) H locs ls => match st with | (w_5, w_6, w_7, w_8) => lv_has ls 4 [(3, .int (nI ii)), (0, .ref h), (1, .int (nI i)), (2, .int (nI j))] ∧ va_P (dC, dI) vwCl [(xo_3_iiiiiiiirrrrr h v0 v1 v2 v3 (nI (hh + ii)) w_5 (nI ww) (nI kk) b1 b2 b3 b4 b5), (xI b1 cI 6 g1), (xI b2 cI 6 g2), (xI b3 cI 6 w_6), (xI b4 cI 6 w_7), (xI b5 cI 6 w_8)] H ∧ va_D A [(xo_3_iiiiiiiirrrrr h v0 v1 v2 v3 (nI (hh + ii)) w_5 (nI ww) (nI kk) b1 b2 b3 b4 b5), (xI b1 cI 6 g1), (xI b2 cI 6 g2), (xI b3 cI 6 w_6), (xI b4 cI 6 w_7), (xI b5 cI 6 w_8)] ∧ va_S A s.heap H locs ∧ (poX v0 v1 v2 v3 g1 ww hh g2 i ii (v5, g3, g4, g5) = (w_5, w_6, w_7, w_8))) j ?_ ?_ 0 (by omega) (v5, g3, g4, g5) ⟨lv_sub hl [0, 1, 2, 3] rfl, hP.sub (ws' := [(xo_3_iiiiiiiirrrrr h v0 v1 v2 v3 (nI hh) v5 (nI ww) (nI kk) b1 b2 b3 b4 b5), (xI b1 cI 6 g1), (xI b2 cI 6 g2), (xI b3 cI 6 g3), (xI b4 cI 6 g4), (xI b5 cI 6 g5)]) [0, 1, 2, 3, 4, 5] rfl, hD.sub (ws' := [(xo_3_iiiiiiiirrrrr h v0 v1 v2 v3 (nI hh) v5 (nI ww) (nI kk) b1 b2 b3 b4 b5), (xI b1 cI 6 g1), (xI b2 cI 6 g2), (xI b3 cI 6 g3), (xI b4 cI 6 g4), (xI b5 cI 6 g5)]) [0, 1, 2, 3, 4, 5] (by decide +kernel) rfl, hS, rfl⟩
  · rintro ii ⟨w_5, w_6, w_7, w_8⟩ H locs ls hii ⟨hl, hP, hD, hS, haf_0⟩ ih
    refine lv_iload_n hx hb dX3_passOnly_2 rfl (lv_at hl 0 rfl) ?_
    refine lv_iload_n hx hb dX3_passOnly_3 rfl (lv_at hl 3 rfl) ?_
    refine lv_icmp_ge (tgt := 33) hx hb dX3_passOnly_4 (by decide) (fun c_ => absurd c_ (fun q_ => absurd ((nI_leI (a := j) (b := ii) (by omega) (by omega)).mp q_) (by omega))) (fun _ => ?_)
    refine lv_aload_n hx hb dX3_passOnly_7 rfl (lv_at hl 1 rfl) ?_
    refine lv_iload_n hx hb dX3_passOnly_8 rfl (lv_at hl 2 rfl) ?_
    refine lv_aload_n hx hb dX3_passOnly_9 rfl (lv_at hl 1 rfl) ?_
    refine lv_iconst (v := 0) hx hb dX3_passOnly_10 (by decide) ?_
    have hPc_18 := hP
    refine vp_callSi (W.runV (As := [.int 0]) (rest := [.int (nI i), .ref h]) ⟨hx, hb, hml, hown, hts⟩ (r_X3_windOn l dC dI cI cZ cL cJ h v0 v1 v2 v3 w_5 (hh + ii) ww kk b1 b2 b3 b4 b5 g1 g2 w_6 w_7 w_8 0 (by omega) (hww) (hkk) (by omega)) (cwV 1 hts gX3_passOnly_X3_windOn rfl rfl rfl (by decide +kernel) ⟨Nat.le_of_ble_eq_true rfl, Nat.le_of_ble_eq_true rfl⟩) (pvP 3 0 hK hP rfl rfl hPc_18) rfl rfl hl.1 rfl (lv_room (Nat.le_of_ble_eq_true rfl)) dX3_passOnly_11 ⟨Nat.le_of_ble_eq_true rfl, Nat.le_of_ble_eq_true rfl⟩) (fun r_18 h_18 => ?_)
    have hc_19 := cutW (wc := [(xo_3_iiiiiiiirrrrr h v0 v1 v2 v3 (nI (hh + ii)) w_5 (nI ww) (nI kk) b1 b2 b3 b4 b5), (xI b1 cI 6 g1), (xI b2 cI 6 g2), (xI b3 cI 6 w_6), (xI b4 cI 6 w_7), (xI b5 cI 6 w_8)]) hP hD hS hA [0, 1, 2, 3, 4, 5] (by decide +kernel) rfl
    refine va_callv (va_runV (As := [.int (nI i), .int r_18]) (rest := []) ⟨hx, hb, hml, hown, hts⟩ (r_X3_passSound l dC dI cI cZ cL cJ H.size h v0 v1 v2 v3 w_5 (hh + ii) ww kk b1 b2 b3 b4 b5 g1 g2 w_6 w_7 w_8 i r_18 (by omega) (hww) (hkk) (by omega)) (cwV 2 hts gX3_passOnly_X3_passSound rfl rfl rfl (by decide +kernel) ⟨Nat.le_of_ble_eq_true rfl, Nat.le_of_ble_eq_true rfl⟩) (pvW 3 0 hK hP rfl rfl hc_19) rfl rfl hl.1 rfl (lv_room (Nat.le_of_ble_eq_true rfl)) dX3_passOnly_14 ⟨Nat.le_of_ble_eq_true rfl, Nat.le_of_ble_eq_true rfl⟩) hS (fun q _ h => hc_19.2.2 q h) hc_19.2.2 (fun u_19 t_19 H1 locs ht hvm h_19 hB hz1 hk1 hS => ?_)
    refine xl_4_3 hB (fun v5n_19 g3n_19 g4n_19 g5n_19 hP1 hD1 hF_19_0 => ?_)
    clear hB
    rw [ht] at hP1
    obtain ⟨hP, hD⟩ := va_join (wr := []) (w1 := [(xo_3_iiiiiiiirrrrr h v0 v1 v2 v3 (nI (hh + ii)) v5n_19 (nI ww) (nI kk) b1 b2 b3 b4 b5), (xI b1 cI 6 g1), (xI b2 cI 6 g2), (xI b3 cI 6 g3n_19), (xI b4 cI 6 g4n_19), (xI b5 cI 6 g5n_19)]) hP hD [0, 1, 2, 3, 4, 5] [] rfl rfl (by decide +kernel) (by decide +kernel) hk1 hc_19.2.2 hP1 hD1
    generalize H1 = H at hP hS ⊢
    have hP : va_P (dC, dI) vwCl [(xo_3_iiiiiiiirrrrr h v0 v1 v2 v3 (nI (hh + ii)) v5n_19 (nI ww) (nI kk) b1 b2 b3 b4 b5), (xI b1 cI 6 g1), (xI b2 cI 6 g2), (xI b3 cI 6 g3n_19), (xI b4 cI 6 g4n_19), (xI b5 cI 6 g5n_19)] H := hP
    have hD := dto hP hD
    refine lv_aload_n hx hb dX3_passOnly_17 rfl (lv_at hl 1 rfl) ?_
    refine lv_dup hx hb dX3_passOnly_18 rfl ?_
    refine va_get (D := (dC, dI)) (ci := 3) (v := .int (nI (hh + ii))) (C := RX3) (T := TX3) (N := 13) hx hb hts i_X3_passOnly_X3 hown hK hP 0 rfl rfl 4 (by decide) (hts _ mx_X3_passOnly_1) (fun _ h9 => h9) rfl dX3_passOnly_19 ?_
    refine lv_iconst (v := 1) hx hb dX3_passOnly_22 (by decide) ?_
    refine lv_iadd hx hb dX3_passOnly_23 ?_
    refine lv_topi (fun v_20 e_20 => ?_)
    obtain rfl : v_20 = (nI ((hh + ii) + 1)) := (e_20).trans (nI_add (hh + ii) 1)
    refine va_put (D := (dC, dI)) (ci := 3) (v := .int (nI ((hh + ii) + 1))) (ty := .int) (C := RX3) (T := TX3) (N := 13) hx hb hts i_X3_passOnly_X3 tyX3 tyX3_ok nmX3 hown hK hP hD hS 0 rfl rfl 4 (by decide) (hts _ mx_X3_passOnly_1) (fun _ h9 => h9) rfl (by decide +kernel) rfl rfl (Nat.le_of_ble_eq_true rfl) dX3_passOnly_24 (fun H locs hP hD hS => ?_)
    have hP : va_P (dC, dI) vwCl [(xo_3_iiiiiiiirrrrr h v0 v1 v2 v3 (nI ((hh + ii) + 1)) v5n_19 (nI ww) (nI kk) b1 b2 b3 b4 b5), (xI b1 cI 6 g1), (xI b2 cI 6 g2), (xI b3 cI 6 g3n_19), (xI b4 cI 6 g4n_19), (xI b5 cI 6 g5n_19)] H := hP
    have hD := dto hP hD
    refine lv_iinc (v := (nI (ii + 1))) (lv' := [(3, .int (nI (ii + 1))), (0, .ref h), (1, .int (nI i)), (2, .int (nI j))]) hx hb dX3_passOnly_27 hl (k := 0) rfl (nI_add ii 1) (by decide) rfl (fun ls hl => ?_)
    refine lv_goto (tgt := 2) hx hb dX3_passOnly_30 (by decide) ?_
    exact ih (v5n_19, g3n_19, g4n_19, g5n_19) _ _ _ ⟨lv_sub hl [0, 1, 2, 3] rfl, hP.sub (ws' := [(xo_3_iiiiiiiirrrrr h v0 v1 v2 v3 (nI ((hh + ii) + 1)) v5n_19 (nI ww) (nI kk) b1 b2 b3 b4 b5), (xI b1 cI 6 g1), (xI b2 cI 6 g2), (xI b3 cI 6 g3n_19), (xI b4 cI 6 g4n_19), (xI b5 cI 6 g5n_19)]) [0, 1, 2, 3, 4, 5] rfl, hD.sub (ws' := [(xo_3_iiiiiiiirrrrr h v0 v1 v2 v3 (nI ((hh + ii) + 1)) v5n_19 (nI ww) (nI kk) b1 b2 b3 b4 b5), (xI b1 cI 6 g1), (xI b2 cI 6 g2), (xI b3 cI 6 g3n_19), (xI b4 cI 6 g4n_19), (xI b5 cI 6 g5n_19)]) [0, 1, 2, 3, 4, 5] (by decide +kernel) rfl, hS, (lf_X3_passOnly_1 hhb hww hkk hi hj hii haf_0 h_18 hF_19_0)⟩
  · rintro ⟨w_5, w_6, w_7, w_8⟩ H locs ls ⟨hl, hP, hD, hS, haf_0⟩
    refine lv_iload_n hx hb dX3_passOnly_2 rfl (lv_at hl 0 rfl) ?_
    refine lv_iload_n hx hb dX3_passOnly_3 rfl (lv_at hl 3 rfl) ?_
    refine lv_icmp_ge (tgt := 33) hx hb dX3_passOnly_4 (by decide) (fun _ => ?_) (fun c_ => absurd ((nI_leI (a := j) (b := j) (by omega) (by omega)).mpr (by omega)) c_)
    have hX9 := cut2 (wc := [(xo_3_iiiiiiiirrrrr h v0 v1 v2 v3 (nI (hh + j)) w_5 (nI ww) (nI kk) b1 b2 b3 b4 b5), (xI b1 cI 6 g1), (xI b2 cI 6 g2), (xI b3 cI 6 w_6), (xI b4 cI 6 w_7), (xI b5 cI 6 w_8)]) hP hD [0, 1, 2, 3, 4, 5] (by decide +kernel) rfl
    exact W.vret hx hb hr (fun t ht hW => ⟨⟨(), rfl, trivial, ⟨w_5, w_6, w_7, w_8, va_Ht ht hX9.1, hX9.2, (lf_X3_passOnly_2 hhb hww hkk hi hj haf_0)⟩⟩, hS.F ht⟩) hS.2.2 dX3_passOnly_33
theorem lf_X3_mealBehind_1 {v0 : Int32} {v1 : Int32} {v2 : Int32} {v3 : Int32} {v5 : Int32} {hh : Nat} {ww : Nat} {kk : Nat} {g1 : Nat → Int32} {g2 : Nat → Int32} {g3 : Nat → Int32} {g4 : Nat → Int32} {g5 : Nat → Int32} {j : Nat} {w_3 : Int32} {w_4 : Nat → Int32} {w_5 : Nat → Int32} {w_6 : Nat → Int32} {ii : Nat} {v5n_14 : Int32} {g3n_14 : Nat → Int32} {g4n_14 : Nat → Int32} {g5n_14 : Nat → Int32} (hhb : hh < 1999999000) (hww : ww ≤ 6) (hkk : kk ≤ 6) (hj : j ≤ 900) (hii : ii < j) (haf_0 : (pmX v0 v1 v2 v3 g1 ww hh kk g2 ii (v5, g3, g4, g5) = (w_3, w_4, w_5, w_6))) (hF_14_0 : paX v0 v1 v2 v3 g2 (wdX g1 ww (hh + ii) 0) kk (w_3, w_4, w_5, w_6) = (v5n_14, g3n_14, g4n_14, g5n_14)) : pmX v0 v1 v2 v3 g1 ww hh kk g2 (ii + 1) (v5, g3, g4, g5) = (v5n_14, g3n_14, g4n_14, g5n_14) := by
  first | assumption | (simp only [pmX]; grind) | grind
theorem lf_X3_mealBehind_2 {v0 : Int32} {v1 : Int32} {v2 : Int32} {v3 : Int32} {v5 : Int32} {hh : Nat} {ww : Nat} {kk : Nat} {g1 : Nat → Int32} {g2 : Nat → Int32} {g3 : Nat → Int32} {g4 : Nat → Int32} {g5 : Nat → Int32} {j : Nat} {w_3 : Int32} {w_4 : Nat → Int32} {w_5 : Nat → Int32} {w_6 : Nat → Int32} (hhb : hh < 1999999000) (hww : ww ≤ 6) (hkk : kk ≤ 6) (hj : j ≤ 900) (haf_0 : (pmX v0 v1 v2 v3 g1 ww hh kk g2 j (v5, g3, g4, g5) = (w_3, w_4, w_5, w_6))) : pmX v0 v1 v2 v3 g1 ww hh kk g2 j (v5, g3, g4, g5) = (w_3, w_4, w_5, w_6) := by
  first | assumption | (simp only [pmX]; grind) | grind
theorem lf_X3_mealBehind_3 {v0 : Int32} {v1 : Int32} {v2 : Int32} {v3 : Int32} {v5 : Int32} {hh : Nat} {ww : Nat} {kk : Nat} {g1 : Nat → Int32} {g2 : Nat → Int32} {g3 : Nat → Int32} {g4 : Nat → Int32} {g5 : Nat → Int32} {j : Nat} {w_3 : Int32} {w_4 : Nat → Int32} {w_5 : Nat → Int32} {w_6 : Nat → Int32} (hhb : hh < 1999999000) (hww : ww ≤ 6) (hkk : kk ≤ 6) (hj : j ≤ 900) (haf_0 : (pmX v0 v1 v2 v3 g1 ww hh kk g2 j (v5, g3, g4, g5) = (w_3, w_4, w_5, w_6))) : w_3 = ((pmX v0 v1 v2 v3 g1 ww hh kk g2 j (v5, g3, g4, g5)).1) := by
  first | assumption | (simp only [pmX]; grind) | grind
set_option maxHeartbeats 4000000 in
set_option maxRecDepth 100000 in
theorem r_X3_mealBehind (l : Launch) (dC : Nat → ClassId) (dI : Nat → Nat → Nat) (cI cZ cL cJ : ClassId) (sz : Nat) (h : Nat) (v0 : Int32) (v1 : Int32) (v2 : Int32) (v3 : Int32) (v5 : Int32) (hh : Nat) (ww : Nat) (kk : Nat) (b1 : Nat) (b2 : Nat) (b3 : Nat) (b4 : Nat) (b5 : Nat) (g1 : Nat → Int32) (g2 : Nat → Int32) (g3 : Nat → Int32) (g4 : Nat → Int32) (g5 : Nat → Int32) (j : Nat) (hhb : hh < 1999999000) (hww : ww ≤ 6) (hkk : kk ≤ 6) (hj : j ≤ 900) : Met l yX3_mealBehind wsX3_mealBehind ({ frames := 4, cells := 0, slots := 0, locals := 88 }) (va_Pc [.ref h, .int (nI j)] (fun U => U.heap.size = sz ∧ va_P (dC, dI) vwCl [(xo_3_iiiiiiiirrrrr h v0 v1 v2 v3 (nI hh) v5 (nI ww) (nI kk) b1 b2 b3 b4 b5), (xI b1 cI 6 g1), (xI b2 cI 6 g2), (xI b3 cI 6 g3), (xI b4 cI 6 g4), (xI b5 cI 6 g5)] U.heap ∧ va_K (dC, dI) vwCl [(cI, .int), (cZ, .boolean), (cL, .object RX3), (cJ, .array .int)] U ∧ va_D (fun _ => True) [(xo_3_iiiiiiiirrrrr h v0 v1 v2 v3 (nI hh) v5 (nI ww) (nI kk) b1 b2 b3 b4 b5), (xI b1 cI 6 g1), (xI b2 cI 6 g2), (xI b3 cI 6 g3), (xI b4 cI 6 g4), (xI b5 cI 6 g5)])) (va_Qi (fun r (_ : Unit) => r = ((pmX v0 v1 v2 v3 g1 ww hh kk g2 j (v5, g3, g4, g5)).1)) (fun (_ : Unit) t => ∃ (v5n : Int32) (g3n : Nat → Int32) (g4n : Nat → Int32) (g5n : Nat → Int32), va_P (dC, dI) vwCl [(xo_3_iiiiiiiirrrrr h v0 v1 v2 v3 (nI (hh + j)) v5n (nI ww) (nI kk) b1 b2 b3 b4 b5), (xI b1 cI 6 g1), (xI b2 cI 6 g2), (xI b3 cI 6 g3n), (xI b4 cI 6 g4n), (xI b5 cI 6 g5n)] t.heap ∧ va_D (va_A [(xo_3_iiiiiiiirrrrr h v0 v1 v2 v3 (nI hh) v5 (nI ww) (nI kk) b1 b2 b3 b4 b5), (xI b1 cI 6 g1), (xI b2 cI 6 g2), (xI b3 cI 6 g3), (xI b4 cI 6 g4), (xI b5 cI 6 g5)] sz) [(xo_3_iiiiiiiirrrrr h v0 v1 v2 v3 (nI (hh + j)) v5n (nI ww) (nI kk) b1 b2 b3 b4 b5), (xI b1 cI 6 g1), (xI b2 cI 6 g2), (xI b3 cI 6 g3n), (xI b4 cI 6 g4n), (xI b5 cI 6 g5n)] ∧ pmX v0 v1 v2 v3 g1 ww hh kk g2 j (v5, g3, g4, g5) = (v5n, g3n, g4n, g5n)) (va_A [(xo_3_iiiiiiiirrrrr h v0 v1 v2 v3 (nI hh) v5 (nI ww) (nI kk) b1 b2 b3 b4 b5), (xI b1 cI 6 g1), (xI b2 cI 6 g2), (xI b3 cI 6 g3), (xI b4 cI 6 g4), (xI b5 cI 6 g5)] sz)) 0 0 (va_A [(xo_3_iiiiiiiirrrrr h v0 v1 v2 v3 (nI hh) v5 (nI ww) (nI kk) b1 b2 b3 b4 b5), (xI b1 cI 6 g1), (xI b2 cI 6 g2), (xI b3 cI 6 g3), (xI b4 cI 6 g4), (xI b5 cI 6 g5)] sz) := by
  refine Met.ofW (cc := cX3_mealBehind) (maxL := 3) (ret := (some .int)) (by decide) rfl ?_
  intro p e s m args below meth c s₁ B hml hv
  obtain ⟨rfl, hsz, hP, hK, hD0⟩ := hv
  have hx := B.exec
  have hb := B.bytes
  have hr := B.returns
  have hts := atoms_spec (ws := wsX3_mealBehind) B.pre
  have hown : s.vm.findClass RX3 = some m.cls := findClass_of_methodNamed B.named
  have hlocks := B.notSynchronized
  subst hsz
  have hD := hD0.self (sz := s.heap.size)
  generalize hAe : va_A [(xo_3_iiiiiiiirrrrr h v0 v1 v2 v3 (nI hh) v5 (nI ww) (nI kk) b1 b2 b3 b4 b5), (xI b1 cI 6 g1), (xI b2 cI 6 g2), (xI b3 cI 6 g3), (xI b4 cI 6 g4), (xI b5 cI 6 g5)] s.heap.size = A at hD ⊢
  have hA : ∀ q : Nat, s.heap.size ≤ q → A q := fun q h => by rw [← hAe]; exact Or.inr h
  have hS : va_S A s.heap s.heap [] := va_S.rf
  have hP : va_P (dC, dI) vwCl [(xo_3_iiiiiiiirrrrr h v0 v1 v2 v3 (nI hh) v5 (nI ww) (nI kk) b1 b2 b3 b4 b5), (xI b1 cI 6 g1), (xI b2 cI 6 g2), (xI b3 cI 6 g3), (xI b4 cI 6 g4), (xI b5 cI 6 g5)] s.heap := hP
  have hl := lv_entry ([.ref h, .int (nI j)]) (n := 3) (Nat.le_of_ble_eq_true rfl)
  rw [lg_entry_eq]
  generalize (lg_sl ([.ref h, .int (nI j)]) ++ List.replicate (3 - (lg_sl ([.ref h, .int (nI j)])).length) Slot.unset).toArray = ls at hl ⊢
  have hl : lv_has ls 3 [(0, .ref h), (1, .int (nI j))] := hl
  refine lv_iconst (v := 0) hx hb dX3_mealBehind_0 (by decide) ?_
  refine lv_istore_n (lv' := [(2, .int 0), (0, .ref h), (1, .int (nI j))]) hx hb dX3_mealBehind_1 rfl hl (by decide) rfl (fun ls hl => ?_)
  refine lp_go (σ := (Int32) × (Nat → Int32) × (Nat → Int32) × (Nat → Int32)) (fun ii (st : (Int32) × (Nat → Int32) × (Nat → Int32) × (Nat → Int32)) H locs ls => match st with | (w_3, w_4, w_5, w_6) => lv_has ls 3 [(2, .int (nI ii)), (0, .ref h), (1, .int (nI j))] ∧ va_P (dC, dI) vwCl [(xo_3_iiiiiiiirrrrr h v0 v1 v2 v3 (nI (hh + ii)) w_3 (nI ww) (nI kk) b1 b2 b3 b4 b5), (xI b1 cI 6 g1), (xI b2 cI 6 g2), (xI b3 cI 6 w_4), (xI b4 cI 6 w_5), (xI b5 cI 6 w_6)] H ∧ va_D A [(xo_3_iiiiiiiirrrrr h v0 v1 v2 v3 (nI (hh + ii)) w_3 (nI ww) (nI kk) b1 b2 b3 b4 b5), (xI b1 cI 6 g1), (xI b2 cI 6 g2), (xI b3 cI 6 w_4), (xI b4 cI 6 w_5), (xI b5 cI 6 w_6)] ∧ va_S A s.heap H locs ∧ (pmX v0 v1 v2 v3 g1 ww hh kk g2 ii (v5, g3, g4, g5) = (w_3, w_4, w_5, w_6))) j ?_ ?_ 0 (by omega) (v5, g3, g4, g5) ⟨lv_sub hl [0, 1, 2] rfl, hP.sub (ws' := [(xo_3_iiiiiiiirrrrr h v0 v1 v2 v3 (nI hh) v5 (nI ww) (nI kk) b1 b2 b3 b4 b5), (xI b1 cI 6 g1), (xI b2 cI 6 g2), (xI b3 cI 6 g3), (xI b4 cI 6 g4), (xI b5 cI 6 g5)]) [0, 1, 2, 3, 4, 5] rfl, hD.sub (ws' := [(xo_3_iiiiiiiirrrrr h v0 v1 v2 v3 (nI hh) v5 (nI ww) (nI kk) b1 b2 b3 b4 b5), (xI b1 cI 6 g1), (xI b2 cI 6 g2), (xI b3 cI 6 g3), (xI b4 cI 6 g4), (xI b5 cI 6 g5)]) [0, 1, 2, 3, 4, 5] (by decide +kernel) rfl, hS, rfl⟩
  · rintro ii ⟨w_3, w_4, w_5, w_6⟩ H locs ls hii ⟨hl, hP, hD, hS, haf_0⟩ ih
    refine lv_iload_n hx hb dX3_mealBehind_2 rfl (lv_at hl 0 rfl) ?_
    refine lv_iload_n hx hb dX3_mealBehind_3 rfl (lv_at hl 2 rfl) ?_
    refine lv_icmp_ge (tgt := 17) hx hb dX3_mealBehind_4 (by decide) (fun c_ => absurd c_ (fun q_ => absurd ((nI_leI (a := j) (b := ii) (by omega) (by omega)).mp q_) (by omega))) (fun _ => ?_)
    refine lv_aload_n hx hb dX3_mealBehind_7 rfl (lv_at hl 1 rfl) ?_
    have hc_14 := cutW (wc := [(xo_3_iiiiiiiirrrrr h v0 v1 v2 v3 (nI (hh + ii)) w_3 (nI ww) (nI kk) b1 b2 b3 b4 b5), (xI b1 cI 6 g1), (xI b2 cI 6 g2), (xI b3 cI 6 w_4), (xI b4 cI 6 w_5), (xI b5 cI 6 w_6)]) hP hD hS hA [0, 1, 2, 3, 4, 5] (by decide +kernel) rfl
    refine va_callv (va_runV (As := []) (rest := []) ⟨hx, hb, hml, hown, hts⟩ (r_X3_pass l dC dI cI cZ cL cJ H.size h v0 v1 v2 v3 w_3 (hh + ii) ww kk b1 b2 b3 b4 b5 g1 g2 w_4 w_5 w_6 (by omega) (hww) (hkk)) (cwV 0 hts gX3_mealBehind_X3_pass rfl rfl rfl (by decide +kernel) ⟨Nat.le_of_ble_eq_true rfl, Nat.le_of_ble_eq_true rfl⟩) (pvW 3 0 hK hP rfl rfl hc_14) rfl rfl hl.1 rfl (lv_room (Nat.le_of_ble_eq_true rfl)) dX3_mealBehind_8 ⟨Nat.le_of_ble_eq_true rfl, Nat.le_of_ble_eq_true rfl⟩) hS (fun q _ h => hc_14.2.2 q h) hc_14.2.2 (fun u_14 t_14 H1 locs ht hvm h_14 hB hz1 hk1 hS => ?_)
    refine xl_4_3 hB (fun v5n_14 g3n_14 g4n_14 g5n_14 hP1 hD1 hF_14_0 => ?_)
    clear hB
    rw [ht] at hP1
    obtain ⟨hP, hD⟩ := va_join (wr := []) (w1 := [(xo_3_iiiiiiiirrrrr h v0 v1 v2 v3 (nI ((hh + ii) + 1)) v5n_14 (nI ww) (nI kk) b1 b2 b3 b4 b5), (xI b1 cI 6 g1), (xI b2 cI 6 g2), (xI b3 cI 6 g3n_14), (xI b4 cI 6 g4n_14), (xI b5 cI 6 g5n_14)]) hP hD [0, 1, 2, 3, 4, 5] [] rfl rfl (by decide +kernel) (by decide +kernel) hk1 hc_14.2.2 hP1 hD1
    generalize H1 = H at hP hS ⊢
    have hP : va_P (dC, dI) vwCl [(xo_3_iiiiiiiirrrrr h v0 v1 v2 v3 (nI ((hh + ii) + 1)) v5n_14 (nI ww) (nI kk) b1 b2 b3 b4 b5), (xI b1 cI 6 g1), (xI b2 cI 6 g2), (xI b3 cI 6 g3n_14), (xI b4 cI 6 g4n_14), (xI b5 cI 6 g5n_14)] H := hP
    have hD := dto hP hD
    refine lv_iinc (v := (nI (ii + 1))) (lv' := [(2, .int (nI (ii + 1))), (0, .ref h), (1, .int (nI j))]) hx hb dX3_mealBehind_11 hl (k := 0) rfl (nI_add ii 1) (by decide) rfl (fun ls hl => ?_)
    refine lv_goto (tgt := 2) hx hb dX3_mealBehind_14 (by decide) ?_
    exact ih (v5n_14, g3n_14, g4n_14, g5n_14) _ _ _ ⟨lv_sub hl [0, 1, 2] rfl, hP.sub (ws' := [(xo_3_iiiiiiiirrrrr h v0 v1 v2 v3 (nI ((hh + ii) + 1)) v5n_14 (nI ww) (nI kk) b1 b2 b3 b4 b5), (xI b1 cI 6 g1), (xI b2 cI 6 g2), (xI b3 cI 6 g3n_14), (xI b4 cI 6 g4n_14), (xI b5 cI 6 g5n_14)]) [0, 1, 2, 3, 4, 5] rfl, hD.sub (ws' := [(xo_3_iiiiiiiirrrrr h v0 v1 v2 v3 (nI ((hh + ii) + 1)) v5n_14 (nI ww) (nI kk) b1 b2 b3 b4 b5), (xI b1 cI 6 g1), (xI b2 cI 6 g2), (xI b3 cI 6 g3n_14), (xI b4 cI 6 g4n_14), (xI b5 cI 6 g5n_14)]) [0, 1, 2, 3, 4, 5] (by decide +kernel) rfl, hS, (lf_X3_mealBehind_1 hhb hww hkk hj hii haf_0 hF_14_0)⟩
  · rintro ⟨w_3, w_4, w_5, w_6⟩ H locs ls ⟨hl, hP, hD, hS, haf_0⟩
    refine lv_iload_n hx hb dX3_mealBehind_2 rfl (lv_at hl 0 rfl) ?_
    refine lv_iload_n hx hb dX3_mealBehind_3 rfl (lv_at hl 2 rfl) ?_
    refine lv_icmp_ge (tgt := 17) hx hb dX3_mealBehind_4 (by decide) (fun _ => ?_) (fun c_ => absurd ((nI_leI (a := j) (b := j) (by omega) (by omega)).mpr (by omega)) c_)
    refine lv_aload_n hx hb dX3_mealBehind_17 rfl (lv_at hl 1 rfl) ?_
    refine va_get (D := (dC, dI)) (ci := 3) (v := .int w_3) (C := RX3) (T := TX3) (N := 13) hx hb hts i_X3_mealBehind_X3 hown hK hP 0 rfl rfl 5 (by decide) (hts _ mx_X3_mealBehind_1) (fun _ h9 => h9) rfl dX3_mealBehind_18 ?_
    have hX9 := cut2 (wc := [(xo_3_iiiiiiiirrrrr h v0 v1 v2 v3 (nI (hh + j)) w_3 (nI ww) (nI kk) b1 b2 b3 b4 b5), (xI b1 cI 6 g1), (xI b2 cI 6 g2), (xI b3 cI 6 w_4), (xI b4 cI 6 w_5), (xI b5 cI 6 w_6)]) hP hD [0, 1, 2, 3, 4, 5] (by decide +kernel) rfl
    exact W.iret (v := w_3) hx hb hr (fun t ht hW => ⟨⟨w_3, (), rfl, (lf_X3_mealBehind_3 hhb hww hkk hj haf_0), ⟨w_3, w_4, w_5, w_6, va_Ht ht hX9.1, hX9.2, (lf_X3_mealBehind_2 hhb hww hkk hj haf_0)⟩⟩, hS.F ht⟩) hS.2.2 dX3_mealBehind_21
set_option maxHeartbeats 4000000 in
set_option maxRecDepth 100000 in
theorem r_X3_begin (l : Launch) (dC : Nat → ClassId) (dI : Nat → Nat → Nat) (cI cZ cL cJ : ClassId) (sz : Nat) (h : Nat) (v0 : Int32) (v1 : Int32) (v2 : Int32) (v3 : Int32) (v5 : Int32) (hh : Nat) (ww : Nat) (kk : Nat) (b1 : Nat) (b2 : Nat) (b3 : Nat) (b4 : Nat) (b5 : Nat) (g1 : Nat → Int32) (g2 : Nat → Int32) (g3 : Nat → Int32) (g4 : Nat → Int32) (g5 : Nat → Int32) (hhb : hh < 2000000000) (hww : ww ≤ 6) (hkk : kk ≤ 6) : Met l yX3_begin wsX3_begin ({ frames := 0, cells := 0, slots := 0, locals := 0 }) (va_Pc [.ref h] (fun U => U.heap.size = sz ∧ va_P (dC, dI) vwCl [(xo_3_iiiiiiiirrrrr h v0 v1 v2 v3 (nI hh) v5 (nI ww) (nI kk) b1 b2 b3 b4 b5), (xI b1 cI 6 g1), (xI b2 cI 6 g2), (xI b3 cI 6 g3), (xI b4 cI 6 g4), (xI b5 cI 6 g5)] U.heap ∧ va_K (dC, dI) vwCl [(cI, .int), (cZ, .boolean), (cL, .object RX3), (cJ, .array .int)] U ∧ va_D (fun _ => True) [(xo_3_iiiiiiiirrrrr h v0 v1 v2 v3 (nI hh) v5 (nI ww) (nI kk) b1 b2 b3 b4 b5), (xI b1 cI 6 g1), (xI b2 cI 6 g2), (xI b3 cI 6 g3), (xI b4 cI 6 g4), (xI b5 cI 6 g5)])) (va_Qv (fun (_ : Unit) => True) (fun (_ : Unit) t => va_P (dC, dI) vwCl [(xo_3_iiiiiiiirrrrr h 0 0 0 1 0 0 0 0 b1 b2 b3 b4 b5), (xI b1 cI 6 g1), (xI b2 cI 6 g2), (xI b3 cI 6 g3), (xI b4 cI 6 g4), (xI b5 cI 6 g5)] t.heap ∧ va_D (va_A [(xo_3_iiiiiiiirrrrr h v0 v1 v2 v3 (nI hh) v5 (nI ww) (nI kk) b1 b2 b3 b4 b5), (xI b1 cI 6 g1), (xI b2 cI 6 g2), (xI b3 cI 6 g3), (xI b4 cI 6 g4), (xI b5 cI 6 g5)] sz) [(xo_3_iiiiiiiirrrrr h 0 0 0 1 0 0 0 0 b1 b2 b3 b4 b5), (xI b1 cI 6 g1), (xI b2 cI 6 g2), (xI b3 cI 6 g3), (xI b4 cI 6 g4), (xI b5 cI 6 g5)]) (va_A [(xo_3_iiiiiiiirrrrr h v0 v1 v2 v3 (nI hh) v5 (nI ww) (nI kk) b1 b2 b3 b4 b5), (xI b1 cI 6 g1), (xI b2 cI 6 g2), (xI b3 cI 6 g3), (xI b4 cI 6 g4), (xI b5 cI 6 g5)] sz)) 0 0 (va_A [(xo_3_iiiiiiiirrrrr h v0 v1 v2 v3 (nI hh) v5 (nI ww) (nI kk) b1 b2 b3 b4 b5), (xI b1 cI 6 g1), (xI b2 cI 6 g2), (xI b3 cI 6 g3), (xI b4 cI 6 g4), (xI b5 cI 6 g5)] sz) := by
  refine Met.ofW (cc := cX3_begin) (maxL := 1) (ret := none) (by decide) rfl ?_
  intro p e s m args below meth c s₁ B hml hv
  obtain ⟨rfl, hsz, hP, hK, hD0⟩ := hv
  have hx := B.exec
  have hb := B.bytes
  have hr := B.returns
  have hts := atoms_spec (ws := wsX3_begin) B.pre
  have hown : s.vm.findClass RX3 = some m.cls := findClass_of_methodNamed B.named
  have hlocks := B.notSynchronized
  subst hsz
  have hD := hD0.self (sz := s.heap.size)
  generalize hAe : va_A [(xo_3_iiiiiiiirrrrr h v0 v1 v2 v3 (nI hh) v5 (nI ww) (nI kk) b1 b2 b3 b4 b5), (xI b1 cI 6 g1), (xI b2 cI 6 g2), (xI b3 cI 6 g3), (xI b4 cI 6 g4), (xI b5 cI 6 g5)] s.heap.size = A at hD ⊢
  have hA : ∀ q : Nat, s.heap.size ≤ q → A q := fun q h => by rw [← hAe]; exact Or.inr h
  have hS : va_S A s.heap s.heap [] := va_S.rf
  have hP : va_P (dC, dI) vwCl [(xo_3_iiiiiiiirrrrr h v0 v1 v2 v3 (nI hh) v5 (nI ww) (nI kk) b1 b2 b3 b4 b5), (xI b1 cI 6 g1), (xI b2 cI 6 g2), (xI b3 cI 6 g3), (xI b4 cI 6 g4), (xI b5 cI 6 g5)] s.heap := hP
  have hl := lv_entry ([.ref h]) (n := 1) (Nat.le_of_ble_eq_true rfl)
  rw [lg_entry_eq]
  generalize (lg_sl ([.ref h]) ++ List.replicate (1 - (lg_sl ([.ref h])).length) Slot.unset).toArray = ls at hl ⊢
  have hl : lv_has ls 1 [(0, .ref h)] := hl
  refine lv_aload_n hx hb dX3_begin_0 rfl (lv_at hl 0 rfl) ?_
  refine lv_iconst (v := 0) hx hb dX3_begin_1 (by decide) ?_
  refine va_put (D := (dC, dI)) (ci := 3) (v := .int 0) (ty := .int) (C := RX3) (T := TX3) (N := 13) hx hb hts i_X3_begin_X3 tyX3 tyX3_ok nmX3 hown hK hP hD hS 0 rfl rfl 0 (by decide) (hts _ mx_X3_begin_1) (fun _ h9 => h9) rfl (by decide +kernel) rfl rfl (Nat.le_of_ble_eq_true rfl) dX3_begin_2 (fun H locs hP hD hS => ?_)
  have hP : va_P (dC, dI) vwCl [(xo_3_iiiiiiiirrrrr h 0 v1 v2 v3 (nI hh) v5 (nI ww) (nI kk) b1 b2 b3 b4 b5), (xI b1 cI 6 g1), (xI b2 cI 6 g2), (xI b3 cI 6 g3), (xI b4 cI 6 g4), (xI b5 cI 6 g5)] H := hP
  have hD := dto hP hD
  refine lv_aload_n hx hb dX3_begin_5 rfl (lv_at hl 0 rfl) ?_
  refine lv_iconst (v := 0) hx hb dX3_begin_6 (by decide) ?_
  refine va_put (D := (dC, dI)) (ci := 3) (v := .int 0) (ty := .int) (C := RX3) (T := TX3) (N := 13) hx hb hts i_X3_begin_X3 tyX3 tyX3_ok nmX3 hown hK hP hD hS 0 rfl rfl 1 (by decide) (hts _ mx_X3_begin_2) (fun _ h9 => h9) rfl (by decide +kernel) rfl rfl (Nat.le_of_ble_eq_true rfl) dX3_begin_7 (fun H locs hP hD hS => ?_)
  have hP : va_P (dC, dI) vwCl [(xo_3_iiiiiiiirrrrr h 0 0 v2 v3 (nI hh) v5 (nI ww) (nI kk) b1 b2 b3 b4 b5), (xI b1 cI 6 g1), (xI b2 cI 6 g2), (xI b3 cI 6 g3), (xI b4 cI 6 g4), (xI b5 cI 6 g5)] H := hP
  have hD := dto hP hD
  refine lv_aload_n hx hb dX3_begin_10 rfl (lv_at hl 0 rfl) ?_
  refine lv_iconst (v := 0) hx hb dX3_begin_11 (by decide) ?_
  refine va_put (D := (dC, dI)) (ci := 3) (v := .int 0) (ty := .int) (C := RX3) (T := TX3) (N := 13) hx hb hts i_X3_begin_X3 tyX3 tyX3_ok nmX3 hown hK hP hD hS 0 rfl rfl 2 (by decide) (hts _ mx_X3_begin_3) (fun _ h9 => h9) rfl (by decide +kernel) rfl rfl (Nat.le_of_ble_eq_true rfl) dX3_begin_12 (fun H locs hP hD hS => ?_)
  have hP : va_P (dC, dI) vwCl [(xo_3_iiiiiiiirrrrr h 0 0 0 v3 (nI hh) v5 (nI ww) (nI kk) b1 b2 b3 b4 b5), (xI b1 cI 6 g1), (xI b2 cI 6 g2), (xI b3 cI 6 g3), (xI b4 cI 6 g4), (xI b5 cI 6 g5)] H := hP
  have hD := dto hP hD
  refine lv_aload_n hx hb dX3_begin_15 rfl (lv_at hl 0 rfl) ?_
  refine lv_iconst (v := 1) hx hb dX3_begin_16 (by decide) ?_
  refine va_put (D := (dC, dI)) (ci := 3) (v := .int 1) (ty := .int) (C := RX3) (T := TX3) (N := 13) hx hb hts i_X3_begin_X3 tyX3 tyX3_ok nmX3 hown hK hP hD hS 0 rfl rfl 3 (by decide) (hts _ mx_X3_begin_4) (fun _ h9 => h9) rfl (by decide +kernel) rfl rfl (Nat.le_of_ble_eq_true rfl) dX3_begin_17 (fun H locs hP hD hS => ?_)
  have hP : va_P (dC, dI) vwCl [(xo_3_iiiiiiiirrrrr h 0 0 0 1 (nI hh) v5 (nI ww) (nI kk) b1 b2 b3 b4 b5), (xI b1 cI 6 g1), (xI b2 cI 6 g2), (xI b3 cI 6 g3), (xI b4 cI 6 g4), (xI b5 cI 6 g5)] H := hP
  have hD := dto hP hD
  refine lv_aload_n hx hb dX3_begin_20 rfl (lv_at hl 0 rfl) ?_
  refine lv_iconst (v := 0) hx hb dX3_begin_21 (by decide) ?_
  refine va_put (D := (dC, dI)) (ci := 3) (v := .int 0) (ty := .int) (C := RX3) (T := TX3) (N := 13) hx hb hts i_X3_begin_X3 tyX3 tyX3_ok nmX3 hown hK hP hD hS 0 rfl rfl 4 (by decide) (hts _ mx_X3_begin_5) (fun _ h9 => h9) rfl (by decide +kernel) rfl rfl (Nat.le_of_ble_eq_true rfl) dX3_begin_22 (fun H locs hP hD hS => ?_)
  have hP : va_P (dC, dI) vwCl [(xo_3_iiiiiiiirrrrr h 0 0 0 1 0 v5 (nI ww) (nI kk) b1 b2 b3 b4 b5), (xI b1 cI 6 g1), (xI b2 cI 6 g2), (xI b3 cI 6 g3), (xI b4 cI 6 g4), (xI b5 cI 6 g5)] H := hP
  have hD := dto hP hD
  refine lv_aload_n hx hb dX3_begin_25 rfl (lv_at hl 0 rfl) ?_
  refine lv_iconst (v := 0) hx hb dX3_begin_26 (by decide) ?_
  refine va_put (D := (dC, dI)) (ci := 3) (v := .int 0) (ty := .int) (C := RX3) (T := TX3) (N := 13) hx hb hts i_X3_begin_X3 tyX3 tyX3_ok nmX3 hown hK hP hD hS 0 rfl rfl 5 (by decide) (hts _ mx_X3_begin_6) (fun _ h9 => h9) rfl (by decide +kernel) rfl rfl (Nat.le_of_ble_eq_true rfl) dX3_begin_27 (fun H locs hP hD hS => ?_)
  have hP : va_P (dC, dI) vwCl [(xo_3_iiiiiiiirrrrr h 0 0 0 1 0 0 (nI ww) (nI kk) b1 b2 b3 b4 b5), (xI b1 cI 6 g1), (xI b2 cI 6 g2), (xI b3 cI 6 g3), (xI b4 cI 6 g4), (xI b5 cI 6 g5)] H := hP
  have hD := dto hP hD
  refine lv_aload_n hx hb dX3_begin_30 rfl (lv_at hl 0 rfl) ?_
  refine lv_iconst (v := 0) hx hb dX3_begin_31 (by decide) ?_
  refine va_put (D := (dC, dI)) (ci := 3) (v := .int 0) (ty := .int) (C := RX3) (T := TX3) (N := 13) hx hb hts i_X3_begin_X3 tyX3 tyX3_ok nmX3 hown hK hP hD hS 0 rfl rfl 6 (by decide) (hts _ mx_X3_begin_7) (fun _ h9 => h9) rfl (by decide +kernel) rfl rfl (Nat.le_of_ble_eq_true rfl) dX3_begin_32 (fun H locs hP hD hS => ?_)
  have hP : va_P (dC, dI) vwCl [(xo_3_iiiiiiiirrrrr h 0 0 0 1 0 0 0 (nI kk) b1 b2 b3 b4 b5), (xI b1 cI 6 g1), (xI b2 cI 6 g2), (xI b3 cI 6 g3), (xI b4 cI 6 g4), (xI b5 cI 6 g5)] H := hP
  have hD := dto hP hD
  refine lv_aload_n hx hb dX3_begin_35 rfl (lv_at hl 0 rfl) ?_
  refine lv_iconst (v := 0) hx hb dX3_begin_36 (by decide) ?_
  refine va_put (D := (dC, dI)) (ci := 3) (v := .int 0) (ty := .int) (C := RX3) (T := TX3) (N := 13) hx hb hts i_X3_begin_X3 tyX3 tyX3_ok nmX3 hown hK hP hD hS 0 rfl rfl 7 (by decide) (hts _ mx_X3_begin_8) (fun _ h9 => h9) rfl (by decide +kernel) rfl rfl (Nat.le_of_ble_eq_true rfl) dX3_begin_37 (fun H locs hP hD hS => ?_)
  have hP : va_P (dC, dI) vwCl [(xo_3_iiiiiiiirrrrr h 0 0 0 1 0 0 0 0 b1 b2 b3 b4 b5), (xI b1 cI 6 g1), (xI b2 cI 6 g2), (xI b3 cI 6 g3), (xI b4 cI 6 g4), (xI b5 cI 6 g5)] H := hP
  have hD := dto hP hD
  have hX9 := cut2 (wc := [(xo_3_iiiiiiiirrrrr h 0 0 0 1 0 0 0 0 b1 b2 b3 b4 b5), (xI b1 cI 6 g1), (xI b2 cI 6 g2), (xI b3 cI 6 g3), (xI b4 cI 6 g4), (xI b5 cI 6 g5)]) hP hD [0, 1, 2, 3, 4, 5] (by decide +kernel) rfl
  exact W.vret hx hb hr (fun t ht hW => ⟨⟨(), rfl, trivial, ⟨va_Ht ht hX9.1, hX9.2⟩⟩, hS.F ht⟩) hS.2.2 dX3_begin_40
theorem lf_X3_becomeLike_1 {f1 : Nat → Int32} {f2 : Nat → Int32} {f3 : Nat → Int32} {f4 : Nat → Int32} {f5 : Nat → Int32} {x1 : Nat → Int32} {x2 : Nat → Int32} {x3 : Nat → Int32} {x4 : Nat → Int32} {x5 : Nat → Int32} {g_1 : Nat → Int32} {g_2 : Nat → Int32} {g_3 : Nat → Int32} {g_4 : Nat → Int32} {g_5 : Nat → Int32} (hu_1 : g_1 = va_cpy x1 f1 (0 : Int32).toNatClampNeg (0 : Int32).toNatClampNeg (6 : Int32).toNatClampNeg) (hu_2 : g_2 = va_cpy x2 f2 (0 : Int32).toNatClampNeg (0 : Int32).toNatClampNeg (6 : Int32).toNatClampNeg) (hu_3 : g_3 = va_cpy x3 f3 (0 : Int32).toNatClampNeg (0 : Int32).toNatClampNeg (6 : Int32).toNatClampNeg) (hu_4 : g_4 = va_cpy x4 f4 (0 : Int32).toNatClampNeg (0 : Int32).toNatClampNeg (6 : Int32).toNatClampNeg) (hu_5 : g_5 = va_cpy x5 f5 (0 : Int32).toNatClampNeg (0 : Int32).toNatClampNeg (6 : Int32).toNatClampNeg) : (∀ jq : Nat, jq < 6 → g_1 jq = x1 jq) := by
  (intro jq hq; subst_vars; exact cpy6 hq)
theorem lf_X3_becomeLike_2 {f1 : Nat → Int32} {f2 : Nat → Int32} {f3 : Nat → Int32} {f4 : Nat → Int32} {f5 : Nat → Int32} {x1 : Nat → Int32} {x2 : Nat → Int32} {x3 : Nat → Int32} {x4 : Nat → Int32} {x5 : Nat → Int32} {g_1 : Nat → Int32} {g_2 : Nat → Int32} {g_3 : Nat → Int32} {g_4 : Nat → Int32} {g_5 : Nat → Int32} (hu_1 : g_1 = va_cpy x1 f1 (0 : Int32).toNatClampNeg (0 : Int32).toNatClampNeg (6 : Int32).toNatClampNeg) (hu_2 : g_2 = va_cpy x2 f2 (0 : Int32).toNatClampNeg (0 : Int32).toNatClampNeg (6 : Int32).toNatClampNeg) (hu_3 : g_3 = va_cpy x3 f3 (0 : Int32).toNatClampNeg (0 : Int32).toNatClampNeg (6 : Int32).toNatClampNeg) (hu_4 : g_4 = va_cpy x4 f4 (0 : Int32).toNatClampNeg (0 : Int32).toNatClampNeg (6 : Int32).toNatClampNeg) (hu_5 : g_5 = va_cpy x5 f5 (0 : Int32).toNatClampNeg (0 : Int32).toNatClampNeg (6 : Int32).toNatClampNeg) : (∀ jq : Nat, jq < 6 → g_2 jq = x2 jq) := by
  (intro jq hq; subst_vars; exact cpy6 hq)
theorem lf_X3_becomeLike_3 {f1 : Nat → Int32} {f2 : Nat → Int32} {f3 : Nat → Int32} {f4 : Nat → Int32} {f5 : Nat → Int32} {x1 : Nat → Int32} {x2 : Nat → Int32} {x3 : Nat → Int32} {x4 : Nat → Int32} {x5 : Nat → Int32} {g_1 : Nat → Int32} {g_2 : Nat → Int32} {g_3 : Nat → Int32} {g_4 : Nat → Int32} {g_5 : Nat → Int32} (hu_1 : g_1 = va_cpy x1 f1 (0 : Int32).toNatClampNeg (0 : Int32).toNatClampNeg (6 : Int32).toNatClampNeg) (hu_2 : g_2 = va_cpy x2 f2 (0 : Int32).toNatClampNeg (0 : Int32).toNatClampNeg (6 : Int32).toNatClampNeg) (hu_3 : g_3 = va_cpy x3 f3 (0 : Int32).toNatClampNeg (0 : Int32).toNatClampNeg (6 : Int32).toNatClampNeg) (hu_4 : g_4 = va_cpy x4 f4 (0 : Int32).toNatClampNeg (0 : Int32).toNatClampNeg (6 : Int32).toNatClampNeg) (hu_5 : g_5 = va_cpy x5 f5 (0 : Int32).toNatClampNeg (0 : Int32).toNatClampNeg (6 : Int32).toNatClampNeg) : (∀ jq : Nat, jq < 6 → g_3 jq = x3 jq) := by
  (intro jq hq; subst_vars; exact cpy6 hq)
theorem lf_X3_becomeLike_4 {f1 : Nat → Int32} {f2 : Nat → Int32} {f3 : Nat → Int32} {f4 : Nat → Int32} {f5 : Nat → Int32} {x1 : Nat → Int32} {x2 : Nat → Int32} {x3 : Nat → Int32} {x4 : Nat → Int32} {x5 : Nat → Int32} {g_1 : Nat → Int32} {g_2 : Nat → Int32} {g_3 : Nat → Int32} {g_4 : Nat → Int32} {g_5 : Nat → Int32} (hu_1 : g_1 = va_cpy x1 f1 (0 : Int32).toNatClampNeg (0 : Int32).toNatClampNeg (6 : Int32).toNatClampNeg) (hu_2 : g_2 = va_cpy x2 f2 (0 : Int32).toNatClampNeg (0 : Int32).toNatClampNeg (6 : Int32).toNatClampNeg) (hu_3 : g_3 = va_cpy x3 f3 (0 : Int32).toNatClampNeg (0 : Int32).toNatClampNeg (6 : Int32).toNatClampNeg) (hu_4 : g_4 = va_cpy x4 f4 (0 : Int32).toNatClampNeg (0 : Int32).toNatClampNeg (6 : Int32).toNatClampNeg) (hu_5 : g_5 = va_cpy x5 f5 (0 : Int32).toNatClampNeg (0 : Int32).toNatClampNeg (6 : Int32).toNatClampNeg) : (∀ jq : Nat, jq < 6 → g_4 jq = x4 jq) := by
  (intro jq hq; subst_vars; exact cpy6 hq)
theorem lf_X3_becomeLike_5 {f1 : Nat → Int32} {f2 : Nat → Int32} {f3 : Nat → Int32} {f4 : Nat → Int32} {f5 : Nat → Int32} {x1 : Nat → Int32} {x2 : Nat → Int32} {x3 : Nat → Int32} {x4 : Nat → Int32} {x5 : Nat → Int32} {g_1 : Nat → Int32} {g_2 : Nat → Int32} {g_3 : Nat → Int32} {g_4 : Nat → Int32} {g_5 : Nat → Int32} (hu_1 : g_1 = va_cpy x1 f1 (0 : Int32).toNatClampNeg (0 : Int32).toNatClampNeg (6 : Int32).toNatClampNeg) (hu_2 : g_2 = va_cpy x2 f2 (0 : Int32).toNatClampNeg (0 : Int32).toNatClampNeg (6 : Int32).toNatClampNeg) (hu_3 : g_3 = va_cpy x3 f3 (0 : Int32).toNatClampNeg (0 : Int32).toNatClampNeg (6 : Int32).toNatClampNeg) (hu_4 : g_4 = va_cpy x4 f4 (0 : Int32).toNatClampNeg (0 : Int32).toNatClampNeg (6 : Int32).toNatClampNeg) (hu_5 : g_5 = va_cpy x5 f5 (0 : Int32).toNatClampNeg (0 : Int32).toNatClampNeg (6 : Int32).toNatClampNeg) : (∀ jq : Nat, jq < 6 → g_5 jq = x5 jq) := by
  (intro jq hq; subst_vars; exact cpy6 hq)
set_option maxHeartbeats 4000000 in
set_option maxRecDepth 100000 in
theorem r_X3_becomeLike (l : Launch) (dC : Nat → ClassId) (dI : Nat → Nat → Nat) (cI cZ cL cJ : ClassId) (sz : Nat) (h : Nat) (u0 : Int32) (u1 : Int32) (u2 : Int32) (u3 : Int32) (u4 : Int32) (u5 : Int32) (u6 : Int32) (u7 : Int32) (o1 : Nat) (o2 : Nat) (o3 : Nat) (o4 : Nat) (o5 : Nat) (f1 : Nat → Int32) (f2 : Nat → Int32) (f3 : Nat → Int32) (f4 : Nat → Int32) (f5 : Nat → Int32) (k : Nat) (y0 : Int32) (y1 : Int32) (y2 : Int32) (y3 : Int32) (y4 : Int32) (y5 : Int32) (y6 : Int32) (y7 : Int32) (p1 : Nat) (p2 : Nat) (p3 : Nat) (p4 : Nat) (p5 : Nat) (x1 : Nat → Int32) (x2 : Nat → Int32) (x3 : Nat → Int32) (x4 : Nat → Int32) (x5 : Nat → Int32)  : Met l yX3_becomeLike wsX3_becomeLike ({ frames := 1, cells := 0, slots := 0, locals := 80 }) (va_Pc [.ref h, .ref k] (fun U => U.heap.size = sz ∧ va_P (dC, dI) vwCl [(xo_3_iiiiiiiirrrrr h u0 u1 u2 u3 u4 u5 u6 u7 o1 o2 o3 o4 o5), (xI o1 cI 6 f1), (xI o2 cI 6 f2), (xI o3 cI 6 f3), (xI o4 cI 6 f4), (xI o5 cI 6 f5), (xo_3_iiiiiiiirrrrr k y0 y1 y2 y3 y4 y5 y6 y7 p1 p2 p3 p4 p5), (xI p1 cI 6 x1), (xI p2 cI 6 x2), (xI p3 cI 6 x3), (xI p4 cI 6 x4), (xI p5 cI 6 x5)] U.heap ∧ va_K (dC, dI) vwCl [(cI, .int), (cZ, .boolean), (cL, .object RX3), (cJ, .array .int)] U ∧ va_D (fun _ => True) [(xo_3_iiiiiiiirrrrr h u0 u1 u2 u3 u4 u5 u6 u7 o1 o2 o3 o4 o5), (xI o1 cI 6 f1), (xI o2 cI 6 f2), (xI o3 cI 6 f3), (xI o4 cI 6 f4), (xI o5 cI 6 f5), (xo_3_iiiiiiiirrrrr k y0 y1 y2 y3 y4 y5 y6 y7 p1 p2 p3 p4 p5), (xI p1 cI 6 x1), (xI p2 cI 6 x2), (xI p3 cI 6 x3), (xI p4 cI 6 x4), (xI p5 cI 6 x5)])) (va_Qv (fun (_ : Unit) => True) (fun (_ : Unit) t => ∃ (f1n : Nat → Int32) (f2n : Nat → Int32) (f3n : Nat → Int32) (f4n : Nat → Int32) (f5n : Nat → Int32), va_P (dC, dI) vwCl [(xo_3_iiiiiiiirrrrr h y0 y1 y2 y3 y4 y5 y6 y7 o1 o2 o3 o4 o5), (xI o1 cI 6 f1n), (xI o2 cI 6 f2n), (xI o3 cI 6 f3n), (xI o4 cI 6 f4n), (xI o5 cI 6 f5n), (xo_3_iiiiiiiirrrrr k y0 y1 y2 y3 y4 y5 y6 y7 p1 p2 p3 p4 p5), (xI p1 cI 6 x1), (xI p2 cI 6 x2), (xI p3 cI 6 x3), (xI p4 cI 6 x4), (xI p5 cI 6 x5)] t.heap ∧ va_D (va_A [(xo_3_iiiiiiiirrrrr h u0 u1 u2 u3 u4 u5 u6 u7 o1 o2 o3 o4 o5), (xI o1 cI 6 f1), (xI o2 cI 6 f2), (xI o3 cI 6 f3), (xI o4 cI 6 f4), (xI o5 cI 6 f5), (xo_3_iiiiiiiirrrrr k y0 y1 y2 y3 y4 y5 y6 y7 p1 p2 p3 p4 p5), (xI p1 cI 6 x1), (xI p2 cI 6 x2), (xI p3 cI 6 x3), (xI p4 cI 6 x4), (xI p5 cI 6 x5)] sz) [(xo_3_iiiiiiiirrrrr h y0 y1 y2 y3 y4 y5 y6 y7 o1 o2 o3 o4 o5), (xI o1 cI 6 f1n), (xI o2 cI 6 f2n), (xI o3 cI 6 f3n), (xI o4 cI 6 f4n), (xI o5 cI 6 f5n), (xo_3_iiiiiiiirrrrr k y0 y1 y2 y3 y4 y5 y6 y7 p1 p2 p3 p4 p5), (xI p1 cI 6 x1), (xI p2 cI 6 x2), (xI p3 cI 6 x3), (xI p4 cI 6 x4), (xI p5 cI 6 x5)] ∧ (∀ jq : Nat, jq < 6 → f1n jq = x1 jq) ∧ (∀ jq : Nat, jq < 6 → f2n jq = x2 jq) ∧ (∀ jq : Nat, jq < 6 → f3n jq = x3 jq) ∧ (∀ jq : Nat, jq < 6 → f4n jq = x4 jq) ∧ (∀ jq : Nat, jq < 6 → f5n jq = x5 jq)) (va_A [(xo_3_iiiiiiiirrrrr h u0 u1 u2 u3 u4 u5 u6 u7 o1 o2 o3 o4 o5), (xI o1 cI 6 f1), (xI o2 cI 6 f2), (xI o3 cI 6 f3), (xI o4 cI 6 f4), (xI o5 cI 6 f5), (xo_3_iiiiiiiirrrrr k y0 y1 y2 y3 y4 y5 y6 y7 p1 p2 p3 p4 p5), (xI p1 cI 6 x1), (xI p2 cI 6 x2), (xI p3 cI 6 x3), (xI p4 cI 6 x4), (xI p5 cI 6 x5)] sz)) 0 0 (va_A [(xo_3_iiiiiiiirrrrr h u0 u1 u2 u3 u4 u5 u6 u7 o1 o2 o3 o4 o5), (xI o1 cI 6 f1), (xI o2 cI 6 f2), (xI o3 cI 6 f3), (xI o4 cI 6 f4), (xI o5 cI 6 f5), (xo_3_iiiiiiiirrrrr k y0 y1 y2 y3 y4 y5 y6 y7 p1 p2 p3 p4 p5), (xI p1 cI 6 x1), (xI p2 cI 6 x2), (xI p3 cI 6 x3), (xI p4 cI 6 x4), (xI p5 cI 6 x5)] sz) := by
  refine Met.ofW (cc := cX3_becomeLike) (maxL := 2) (ret := none) (by decide) rfl ?_
  intro p e s m args below meth c s₁ B hml hv
  obtain ⟨rfl, hsz, hP, hK, hD0⟩ := hv
  have hx := B.exec
  have hb := B.bytes
  have hr := B.returns
  have hts := atoms_spec (ws := wsX3_becomeLike) B.pre
  have hown : s.vm.findClass RX3 = some m.cls := findClass_of_methodNamed B.named
  have hlocks := B.notSynchronized
  subst hsz
  have hD := hD0.self (sz := s.heap.size)
  generalize hAe : va_A [(xo_3_iiiiiiiirrrrr h u0 u1 u2 u3 u4 u5 u6 u7 o1 o2 o3 o4 o5), (xI o1 cI 6 f1), (xI o2 cI 6 f2), (xI o3 cI 6 f3), (xI o4 cI 6 f4), (xI o5 cI 6 f5), (xo_3_iiiiiiiirrrrr k y0 y1 y2 y3 y4 y5 y6 y7 p1 p2 p3 p4 p5), (xI p1 cI 6 x1), (xI p2 cI 6 x2), (xI p3 cI 6 x3), (xI p4 cI 6 x4), (xI p5 cI 6 x5)] s.heap.size = A at hD ⊢
  have hA : ∀ q : Nat, s.heap.size ≤ q → A q := fun q h => by rw [← hAe]; exact Or.inr h
  have hS : va_S A s.heap s.heap [] := va_S.rf
  have hP : va_P (dC, dI) vwCl [(xo_3_iiiiiiiirrrrr h u0 u1 u2 u3 u4 u5 u6 u7 o1 o2 o3 o4 o5), (xI o1 cI 6 f1), (xI o2 cI 6 f2), (xI o3 cI 6 f3), (xI o4 cI 6 f4), (xI o5 cI 6 f5), (xo_3_iiiiiiiirrrrr k y0 y1 y2 y3 y4 y5 y6 y7 p1 p2 p3 p4 p5), (xI p1 cI 6 x1), (xI p2 cI 6 x2), (xI p3 cI 6 x3), (xI p4 cI 6 x4), (xI p5 cI 6 x5)] s.heap := hP
  have hl := lv_entry ([.ref h, .ref k]) (n := 2) (Nat.le_of_ble_eq_true rfl)
  rw [lg_entry_eq]
  generalize (lg_sl ([.ref h, .ref k]) ++ List.replicate (2 - (lg_sl ([.ref h, .ref k])).length) Slot.unset).toArray = ls at hl ⊢
  have hl : lv_has ls 2 [(0, .ref h), (1, .ref k)] := hl
  refine lv_aload_n hx hb dX3_becomeLike_0 rfl (lv_at hl 0 rfl) ?_
  refine lv_aload_n hx hb dX3_becomeLike_1 rfl (lv_at hl 1 rfl) ?_
  refine va_get (D := (dC, dI)) (ci := 3) (v := .int y0) (C := RX3) (T := TX3) (N := 13) hx hb hts i_X3_becomeLike_X3 hown hK hP 6 rfl rfl 0 (by decide) (hts _ mx_X3_becomeLike_1) (fun _ h9 => h9) rfl dX3_becomeLike_2 ?_
  refine va_put (D := (dC, dI)) (ci := 3) (v := .int y0) (ty := .int) (C := RX3) (T := TX3) (N := 13) hx hb hts i_X3_becomeLike_X3 tyX3 tyX3_ok nmX3 hown hK hP hD hS 0 rfl rfl 0 (by decide) (hts _ mx_X3_becomeLike_1) (fun _ h9 => h9) rfl (by decide +kernel) rfl rfl (Nat.le_of_ble_eq_true rfl) dX3_becomeLike_5 (fun H locs hP hD hS => ?_)
  have hP : va_P (dC, dI) vwCl [(xo_3_iiiiiiiirrrrr h y0 u1 u2 u3 u4 u5 u6 u7 o1 o2 o3 o4 o5), (xI o1 cI 6 f1), (xI o2 cI 6 f2), (xI o3 cI 6 f3), (xI o4 cI 6 f4), (xI o5 cI 6 f5), (xo_3_iiiiiiiirrrrr k y0 y1 y2 y3 y4 y5 y6 y7 p1 p2 p3 p4 p5), (xI p1 cI 6 x1), (xI p2 cI 6 x2), (xI p3 cI 6 x3), (xI p4 cI 6 x4), (xI p5 cI 6 x5)] H := hP
  have hD := dto hP hD
  refine lv_aload_n hx hb dX3_becomeLike_8 rfl (lv_at hl 0 rfl) ?_
  refine lv_aload_n hx hb dX3_becomeLike_9 rfl (lv_at hl 1 rfl) ?_
  refine va_get (D := (dC, dI)) (ci := 3) (v := .int y1) (C := RX3) (T := TX3) (N := 13) hx hb hts i_X3_becomeLike_X3 hown hK hP 6 rfl rfl 1 (by decide) (hts _ mx_X3_becomeLike_2) (fun _ h9 => h9) rfl dX3_becomeLike_10 ?_
  refine va_put (D := (dC, dI)) (ci := 3) (v := .int y1) (ty := .int) (C := RX3) (T := TX3) (N := 13) hx hb hts i_X3_becomeLike_X3 tyX3 tyX3_ok nmX3 hown hK hP hD hS 0 rfl rfl 1 (by decide) (hts _ mx_X3_becomeLike_2) (fun _ h9 => h9) rfl (by decide +kernel) rfl rfl (Nat.le_of_ble_eq_true rfl) dX3_becomeLike_13 (fun H locs hP hD hS => ?_)
  have hP : va_P (dC, dI) vwCl [(xo_3_iiiiiiiirrrrr h y0 y1 u2 u3 u4 u5 u6 u7 o1 o2 o3 o4 o5), (xI o1 cI 6 f1), (xI o2 cI 6 f2), (xI o3 cI 6 f3), (xI o4 cI 6 f4), (xI o5 cI 6 f5), (xo_3_iiiiiiiirrrrr k y0 y1 y2 y3 y4 y5 y6 y7 p1 p2 p3 p4 p5), (xI p1 cI 6 x1), (xI p2 cI 6 x2), (xI p3 cI 6 x3), (xI p4 cI 6 x4), (xI p5 cI 6 x5)] H := hP
  have hD := dto hP hD
  refine lv_aload_n hx hb dX3_becomeLike_16 rfl (lv_at hl 0 rfl) ?_
  refine lv_aload_n hx hb dX3_becomeLike_17 rfl (lv_at hl 1 rfl) ?_
  refine va_get (D := (dC, dI)) (ci := 3) (v := .int y2) (C := RX3) (T := TX3) (N := 13) hx hb hts i_X3_becomeLike_X3 hown hK hP 6 rfl rfl 2 (by decide) (hts _ mx_X3_becomeLike_3) (fun _ h9 => h9) rfl dX3_becomeLike_18 ?_
  refine va_put (D := (dC, dI)) (ci := 3) (v := .int y2) (ty := .int) (C := RX3) (T := TX3) (N := 13) hx hb hts i_X3_becomeLike_X3 tyX3 tyX3_ok nmX3 hown hK hP hD hS 0 rfl rfl 2 (by decide) (hts _ mx_X3_becomeLike_3) (fun _ h9 => h9) rfl (by decide +kernel) rfl rfl (Nat.le_of_ble_eq_true rfl) dX3_becomeLike_21 (fun H locs hP hD hS => ?_)
  have hP : va_P (dC, dI) vwCl [(xo_3_iiiiiiiirrrrr h y0 y1 y2 u3 u4 u5 u6 u7 o1 o2 o3 o4 o5), (xI o1 cI 6 f1), (xI o2 cI 6 f2), (xI o3 cI 6 f3), (xI o4 cI 6 f4), (xI o5 cI 6 f5), (xo_3_iiiiiiiirrrrr k y0 y1 y2 y3 y4 y5 y6 y7 p1 p2 p3 p4 p5), (xI p1 cI 6 x1), (xI p2 cI 6 x2), (xI p3 cI 6 x3), (xI p4 cI 6 x4), (xI p5 cI 6 x5)] H := hP
  have hD := dto hP hD
  refine lv_aload_n hx hb dX3_becomeLike_24 rfl (lv_at hl 0 rfl) ?_
  refine lv_aload_n hx hb dX3_becomeLike_25 rfl (lv_at hl 1 rfl) ?_
  refine va_get (D := (dC, dI)) (ci := 3) (v := .int y3) (C := RX3) (T := TX3) (N := 13) hx hb hts i_X3_becomeLike_X3 hown hK hP 6 rfl rfl 3 (by decide) (hts _ mx_X3_becomeLike_4) (fun _ h9 => h9) rfl dX3_becomeLike_26 ?_
  refine va_put (D := (dC, dI)) (ci := 3) (v := .int y3) (ty := .int) (C := RX3) (T := TX3) (N := 13) hx hb hts i_X3_becomeLike_X3 tyX3 tyX3_ok nmX3 hown hK hP hD hS 0 rfl rfl 3 (by decide) (hts _ mx_X3_becomeLike_4) (fun _ h9 => h9) rfl (by decide +kernel) rfl rfl (Nat.le_of_ble_eq_true rfl) dX3_becomeLike_29 (fun H locs hP hD hS => ?_)
  have hP : va_P (dC, dI) vwCl [(xo_3_iiiiiiiirrrrr h y0 y1 y2 y3 u4 u5 u6 u7 o1 o2 o3 o4 o5), (xI o1 cI 6 f1), (xI o2 cI 6 f2), (xI o3 cI 6 f3), (xI o4 cI 6 f4), (xI o5 cI 6 f5), (xo_3_iiiiiiiirrrrr k y0 y1 y2 y3 y4 y5 y6 y7 p1 p2 p3 p4 p5), (xI p1 cI 6 x1), (xI p2 cI 6 x2), (xI p3 cI 6 x3), (xI p4 cI 6 x4), (xI p5 cI 6 x5)] H := hP
  have hD := dto hP hD
  refine lv_aload_n hx hb dX3_becomeLike_32 rfl (lv_at hl 0 rfl) ?_
  refine lv_aload_n hx hb dX3_becomeLike_33 rfl (lv_at hl 1 rfl) ?_
  refine va_get (D := (dC, dI)) (ci := 3) (v := .int y4) (C := RX3) (T := TX3) (N := 13) hx hb hts i_X3_becomeLike_X3 hown hK hP 6 rfl rfl 4 (by decide) (hts _ mx_X3_becomeLike_5) (fun _ h9 => h9) rfl dX3_becomeLike_34 ?_
  refine va_put (D := (dC, dI)) (ci := 3) (v := .int y4) (ty := .int) (C := RX3) (T := TX3) (N := 13) hx hb hts i_X3_becomeLike_X3 tyX3 tyX3_ok nmX3 hown hK hP hD hS 0 rfl rfl 4 (by decide) (hts _ mx_X3_becomeLike_5) (fun _ h9 => h9) rfl (by decide +kernel) rfl rfl (Nat.le_of_ble_eq_true rfl) dX3_becomeLike_37 (fun H locs hP hD hS => ?_)
  have hP : va_P (dC, dI) vwCl [(xo_3_iiiiiiiirrrrr h y0 y1 y2 y3 y4 u5 u6 u7 o1 o2 o3 o4 o5), (xI o1 cI 6 f1), (xI o2 cI 6 f2), (xI o3 cI 6 f3), (xI o4 cI 6 f4), (xI o5 cI 6 f5), (xo_3_iiiiiiiirrrrr k y0 y1 y2 y3 y4 y5 y6 y7 p1 p2 p3 p4 p5), (xI p1 cI 6 x1), (xI p2 cI 6 x2), (xI p3 cI 6 x3), (xI p4 cI 6 x4), (xI p5 cI 6 x5)] H := hP
  have hD := dto hP hD
  refine lv_aload_n hx hb dX3_becomeLike_40 rfl (lv_at hl 0 rfl) ?_
  refine lv_aload_n hx hb dX3_becomeLike_41 rfl (lv_at hl 1 rfl) ?_
  refine va_get (D := (dC, dI)) (ci := 3) (v := .int y5) (C := RX3) (T := TX3) (N := 13) hx hb hts i_X3_becomeLike_X3 hown hK hP 6 rfl rfl 5 (by decide) (hts _ mx_X3_becomeLike_6) (fun _ h9 => h9) rfl dX3_becomeLike_42 ?_
  refine va_put (D := (dC, dI)) (ci := 3) (v := .int y5) (ty := .int) (C := RX3) (T := TX3) (N := 13) hx hb hts i_X3_becomeLike_X3 tyX3 tyX3_ok nmX3 hown hK hP hD hS 0 rfl rfl 5 (by decide) (hts _ mx_X3_becomeLike_6) (fun _ h9 => h9) rfl (by decide +kernel) rfl rfl (Nat.le_of_ble_eq_true rfl) dX3_becomeLike_45 (fun H locs hP hD hS => ?_)
  have hP : va_P (dC, dI) vwCl [(xo_3_iiiiiiiirrrrr h y0 y1 y2 y3 y4 y5 u6 u7 o1 o2 o3 o4 o5), (xI o1 cI 6 f1), (xI o2 cI 6 f2), (xI o3 cI 6 f3), (xI o4 cI 6 f4), (xI o5 cI 6 f5), (xo_3_iiiiiiiirrrrr k y0 y1 y2 y3 y4 y5 y6 y7 p1 p2 p3 p4 p5), (xI p1 cI 6 x1), (xI p2 cI 6 x2), (xI p3 cI 6 x3), (xI p4 cI 6 x4), (xI p5 cI 6 x5)] H := hP
  have hD := dto hP hD
  refine lv_aload_n hx hb dX3_becomeLike_48 rfl (lv_at hl 0 rfl) ?_
  refine lv_aload_n hx hb dX3_becomeLike_49 rfl (lv_at hl 1 rfl) ?_
  refine va_get (D := (dC, dI)) (ci := 3) (v := .int y6) (C := RX3) (T := TX3) (N := 13) hx hb hts i_X3_becomeLike_X3 hown hK hP 6 rfl rfl 6 (by decide) (hts _ mx_X3_becomeLike_7) (fun _ h9 => h9) rfl dX3_becomeLike_50 ?_
  refine va_put (D := (dC, dI)) (ci := 3) (v := .int y6) (ty := .int) (C := RX3) (T := TX3) (N := 13) hx hb hts i_X3_becomeLike_X3 tyX3 tyX3_ok nmX3 hown hK hP hD hS 0 rfl rfl 6 (by decide) (hts _ mx_X3_becomeLike_7) (fun _ h9 => h9) rfl (by decide +kernel) rfl rfl (Nat.le_of_ble_eq_true rfl) dX3_becomeLike_53 (fun H locs hP hD hS => ?_)
  have hP : va_P (dC, dI) vwCl [(xo_3_iiiiiiiirrrrr h y0 y1 y2 y3 y4 y5 y6 u7 o1 o2 o3 o4 o5), (xI o1 cI 6 f1), (xI o2 cI 6 f2), (xI o3 cI 6 f3), (xI o4 cI 6 f4), (xI o5 cI 6 f5), (xo_3_iiiiiiiirrrrr k y0 y1 y2 y3 y4 y5 y6 y7 p1 p2 p3 p4 p5), (xI p1 cI 6 x1), (xI p2 cI 6 x2), (xI p3 cI 6 x3), (xI p4 cI 6 x4), (xI p5 cI 6 x5)] H := hP
  have hD := dto hP hD
  refine lv_aload_n hx hb dX3_becomeLike_56 rfl (lv_at hl 0 rfl) ?_
  refine lv_aload_n hx hb dX3_becomeLike_57 rfl (lv_at hl 1 rfl) ?_
  refine va_get (D := (dC, dI)) (ci := 3) (v := .int y7) (C := RX3) (T := TX3) (N := 13) hx hb hts i_X3_becomeLike_X3 hown hK hP 6 rfl rfl 7 (by decide) (hts _ mx_X3_becomeLike_8) (fun _ h9 => h9) rfl dX3_becomeLike_58 ?_
  refine va_put (D := (dC, dI)) (ci := 3) (v := .int y7) (ty := .int) (C := RX3) (T := TX3) (N := 13) hx hb hts i_X3_becomeLike_X3 tyX3 tyX3_ok nmX3 hown hK hP hD hS 0 rfl rfl 7 (by decide) (hts _ mx_X3_becomeLike_8) (fun _ h9 => h9) rfl (by decide +kernel) rfl rfl (Nat.le_of_ble_eq_true rfl) dX3_becomeLike_61 (fun H locs hP hD hS => ?_)
  have hP : va_P (dC, dI) vwCl [(xo_3_iiiiiiiirrrrr h y0 y1 y2 y3 y4 y5 y6 y7 o1 o2 o3 o4 o5), (xI o1 cI 6 f1), (xI o2 cI 6 f2), (xI o3 cI 6 f3), (xI o4 cI 6 f4), (xI o5 cI 6 f5), (xo_3_iiiiiiiirrrrr k y0 y1 y2 y3 y4 y5 y6 y7 p1 p2 p3 p4 p5), (xI p1 cI 6 x1), (xI p2 cI 6 x2), (xI p3 cI 6 x3), (xI p4 cI 6 x4), (xI p5 cI 6 x5)] H := hP
  have hD := dto hP hD
  refine lv_aload_n hx hb dX3_becomeLike_64 rfl (lv_at hl 1 rfl) ?_
  refine va_get (D := (dC, dI)) (ci := 3) (v := .ref p1) (C := RX3) (T := TX3) (N := 13) hx hb hts i_X3_becomeLike_X3 hown hK hP 6 rfl rfl 8 (by decide) (hts _ mx_X3_becomeLike_9) (fun _ h9 => h9) rfl dX3_becomeLike_65 ?_
  refine lv_iconst (v := 0) hx hb dX3_becomeLike_68 (by decide) ?_
  refine lv_aload_n hx hb dX3_becomeLike_69 rfl (lv_at hl 0 rfl) ?_
  refine va_get (D := (dC, dI)) (ci := 3) (v := .ref o1) (C := RX3) (T := TX3) (N := 13) hx hb hts i_X3_becomeLike_X3 hown hK hP 0 rfl rfl 8 (by decide) (hts _ mx_X3_becomeLike_9) (fun _ h9 => h9) rfl dX3_becomeLike_70 ?_
  refine lv_iconst (v := 0) hx hb dX3_becomeLike_73 (by decide) ?_
  refine lv_bipush (v := 6) hx hb dX3_becomeLike_74 (by decide) ?_
  refine va_copyi hx hb (by rw [hml]; exact hl.1.symm) hown (hts _ mx_X3_becomeLike_10) (hts _ mx_X3_becomeLike_11) (hts _ mx_X3_becomeLike_12) (hts _ mx_X3_becomeLike_13) hK hP hD hS 7 1 0 0 rfl rfl rfl rfl rfl (by decide) (by decide) (by decide) (by decide) (by decide) (fun _ _ => rfl) (Nat.le_of_ble_eq_true rfl) (Nat.le_of_ble_eq_true rfl) dX3_becomeLike_76 (fun H locs hP hD hS => ?_)
  generalize hg_1 : va_cpy x1 f1 (0 : Int32).toNatClampNeg (0 : Int32).toNatClampNeg (6 : Int32).toNatClampNeg = g_1 at hP hD
  have hu_1 : g_1 = va_cpy x1 f1 (0 : Int32).toNatClampNeg (0 : Int32).toNatClampNeg (6 : Int32).toNatClampNeg := hg_1.symm
  have hP : va_P (dC, dI) vwCl [(xo_3_iiiiiiiirrrrr h y0 y1 y2 y3 y4 y5 y6 y7 o1 o2 o3 o4 o5), (xI o1 cI 6 g_1), (xI o2 cI 6 f2), (xI o3 cI 6 f3), (xI o4 cI 6 f4), (xI o5 cI 6 f5), (xo_3_iiiiiiiirrrrr k y0 y1 y2 y3 y4 y5 y6 y7 p1 p2 p3 p4 p5), (xI p1 cI 6 x1), (xI p2 cI 6 x2), (xI p3 cI 6 x3), (xI p4 cI 6 x4), (xI p5 cI 6 x5)] H := hP
  have hD := dto hP hD
  refine lv_aload_n hx hb dX3_becomeLike_79 rfl (lv_at hl 1 rfl) ?_
  refine va_get (D := (dC, dI)) (ci := 3) (v := .ref p2) (C := RX3) (T := TX3) (N := 13) hx hb hts i_X3_becomeLike_X3 hown hK hP 6 rfl rfl 9 (by decide) (hts _ mx_X3_becomeLike_14) (fun _ h9 => h9) rfl dX3_becomeLike_80 ?_
  refine lv_iconst (v := 0) hx hb dX3_becomeLike_83 (by decide) ?_
  refine lv_aload_n hx hb dX3_becomeLike_84 rfl (lv_at hl 0 rfl) ?_
  refine va_get (D := (dC, dI)) (ci := 3) (v := .ref o2) (C := RX3) (T := TX3) (N := 13) hx hb hts i_X3_becomeLike_X3 hown hK hP 0 rfl rfl 9 (by decide) (hts _ mx_X3_becomeLike_14) (fun _ h9 => h9) rfl dX3_becomeLike_85 ?_
  refine lv_iconst (v := 0) hx hb dX3_becomeLike_88 (by decide) ?_
  refine lv_bipush (v := 6) hx hb dX3_becomeLike_89 (by decide) ?_
  refine va_copyi hx hb (by rw [hml]; exact hl.1.symm) hown (hts _ mx_X3_becomeLike_10) (hts _ mx_X3_becomeLike_11) (hts _ mx_X3_becomeLike_12) (hts _ mx_X3_becomeLike_13) hK hP hD hS 8 2 0 0 rfl rfl rfl rfl rfl (by decide) (by decide) (by decide) (by decide) (by decide) (fun _ _ => rfl) (Nat.le_of_ble_eq_true rfl) (Nat.le_of_ble_eq_true rfl) dX3_becomeLike_91 (fun H locs hP hD hS => ?_)
  generalize hg_2 : va_cpy x2 f2 (0 : Int32).toNatClampNeg (0 : Int32).toNatClampNeg (6 : Int32).toNatClampNeg = g_2 at hP hD
  have hu_2 : g_2 = va_cpy x2 f2 (0 : Int32).toNatClampNeg (0 : Int32).toNatClampNeg (6 : Int32).toNatClampNeg := hg_2.symm
  have hP : va_P (dC, dI) vwCl [(xo_3_iiiiiiiirrrrr h y0 y1 y2 y3 y4 y5 y6 y7 o1 o2 o3 o4 o5), (xI o1 cI 6 g_1), (xI o2 cI 6 g_2), (xI o3 cI 6 f3), (xI o4 cI 6 f4), (xI o5 cI 6 f5), (xo_3_iiiiiiiirrrrr k y0 y1 y2 y3 y4 y5 y6 y7 p1 p2 p3 p4 p5), (xI p1 cI 6 x1), (xI p2 cI 6 x2), (xI p3 cI 6 x3), (xI p4 cI 6 x4), (xI p5 cI 6 x5)] H := hP
  have hD := dto hP hD
  refine lv_aload_n hx hb dX3_becomeLike_94 rfl (lv_at hl 1 rfl) ?_
  refine va_get (D := (dC, dI)) (ci := 3) (v := .ref p3) (C := RX3) (T := TX3) (N := 13) hx hb hts i_X3_becomeLike_X3 hown hK hP 6 rfl rfl 10 (by decide) (hts _ mx_X3_becomeLike_15) (fun _ h9 => h9) rfl dX3_becomeLike_95 ?_
  refine lv_iconst (v := 0) hx hb dX3_becomeLike_98 (by decide) ?_
  refine lv_aload_n hx hb dX3_becomeLike_99 rfl (lv_at hl 0 rfl) ?_
  refine va_get (D := (dC, dI)) (ci := 3) (v := .ref o3) (C := RX3) (T := TX3) (N := 13) hx hb hts i_X3_becomeLike_X3 hown hK hP 0 rfl rfl 10 (by decide) (hts _ mx_X3_becomeLike_15) (fun _ h9 => h9) rfl dX3_becomeLike_100 ?_
  refine lv_iconst (v := 0) hx hb dX3_becomeLike_103 (by decide) ?_
  refine lv_bipush (v := 6) hx hb dX3_becomeLike_104 (by decide) ?_
  refine va_copyi hx hb (by rw [hml]; exact hl.1.symm) hown (hts _ mx_X3_becomeLike_10) (hts _ mx_X3_becomeLike_11) (hts _ mx_X3_becomeLike_12) (hts _ mx_X3_becomeLike_13) hK hP hD hS 9 3 0 0 rfl rfl rfl rfl rfl (by decide) (by decide) (by decide) (by decide) (by decide) (fun _ _ => rfl) (Nat.le_of_ble_eq_true rfl) (Nat.le_of_ble_eq_true rfl) dX3_becomeLike_106 (fun H locs hP hD hS => ?_)
  generalize hg_3 : va_cpy x3 f3 (0 : Int32).toNatClampNeg (0 : Int32).toNatClampNeg (6 : Int32).toNatClampNeg = g_3 at hP hD
  have hu_3 : g_3 = va_cpy x3 f3 (0 : Int32).toNatClampNeg (0 : Int32).toNatClampNeg (6 : Int32).toNatClampNeg := hg_3.symm
  have hP : va_P (dC, dI) vwCl [(xo_3_iiiiiiiirrrrr h y0 y1 y2 y3 y4 y5 y6 y7 o1 o2 o3 o4 o5), (xI o1 cI 6 g_1), (xI o2 cI 6 g_2), (xI o3 cI 6 g_3), (xI o4 cI 6 f4), (xI o5 cI 6 f5), (xo_3_iiiiiiiirrrrr k y0 y1 y2 y3 y4 y5 y6 y7 p1 p2 p3 p4 p5), (xI p1 cI 6 x1), (xI p2 cI 6 x2), (xI p3 cI 6 x3), (xI p4 cI 6 x4), (xI p5 cI 6 x5)] H := hP
  have hD := dto hP hD
  refine lv_aload_n hx hb dX3_becomeLike_109 rfl (lv_at hl 1 rfl) ?_
  refine va_get (D := (dC, dI)) (ci := 3) (v := .ref p4) (C := RX3) (T := TX3) (N := 13) hx hb hts i_X3_becomeLike_X3 hown hK hP 6 rfl rfl 11 (by decide) (hts _ mx_X3_becomeLike_16) (fun _ h9 => h9) rfl dX3_becomeLike_110 ?_
  refine lv_iconst (v := 0) hx hb dX3_becomeLike_113 (by decide) ?_
  refine lv_aload_n hx hb dX3_becomeLike_114 rfl (lv_at hl 0 rfl) ?_
  refine va_get (D := (dC, dI)) (ci := 3) (v := .ref o4) (C := RX3) (T := TX3) (N := 13) hx hb hts i_X3_becomeLike_X3 hown hK hP 0 rfl rfl 11 (by decide) (hts _ mx_X3_becomeLike_16) (fun _ h9 => h9) rfl dX3_becomeLike_115 ?_
  refine lv_iconst (v := 0) hx hb dX3_becomeLike_118 (by decide) ?_
  refine lv_bipush (v := 6) hx hb dX3_becomeLike_119 (by decide) ?_
  refine va_copyi hx hb (by rw [hml]; exact hl.1.symm) hown (hts _ mx_X3_becomeLike_10) (hts _ mx_X3_becomeLike_11) (hts _ mx_X3_becomeLike_12) (hts _ mx_X3_becomeLike_13) hK hP hD hS 10 4 0 0 rfl rfl rfl rfl rfl (by decide) (by decide) (by decide) (by decide) (by decide) (fun _ _ => rfl) (Nat.le_of_ble_eq_true rfl) (Nat.le_of_ble_eq_true rfl) dX3_becomeLike_121 (fun H locs hP hD hS => ?_)
  generalize hg_4 : va_cpy x4 f4 (0 : Int32).toNatClampNeg (0 : Int32).toNatClampNeg (6 : Int32).toNatClampNeg = g_4 at hP hD
  have hu_4 : g_4 = va_cpy x4 f4 (0 : Int32).toNatClampNeg (0 : Int32).toNatClampNeg (6 : Int32).toNatClampNeg := hg_4.symm
  have hP : va_P (dC, dI) vwCl [(xo_3_iiiiiiiirrrrr h y0 y1 y2 y3 y4 y5 y6 y7 o1 o2 o3 o4 o5), (xI o1 cI 6 g_1), (xI o2 cI 6 g_2), (xI o3 cI 6 g_3), (xI o4 cI 6 g_4), (xI o5 cI 6 f5), (xo_3_iiiiiiiirrrrr k y0 y1 y2 y3 y4 y5 y6 y7 p1 p2 p3 p4 p5), (xI p1 cI 6 x1), (xI p2 cI 6 x2), (xI p3 cI 6 x3), (xI p4 cI 6 x4), (xI p5 cI 6 x5)] H := hP
  have hD := dto hP hD
  refine lv_aload_n hx hb dX3_becomeLike_124 rfl (lv_at hl 1 rfl) ?_
  refine va_get (D := (dC, dI)) (ci := 3) (v := .ref p5) (C := RX3) (T := TX3) (N := 13) hx hb hts i_X3_becomeLike_X3 hown hK hP 6 rfl rfl 12 (by decide) (hts _ mx_X3_becomeLike_17) (fun _ h9 => h9) rfl dX3_becomeLike_125 ?_
  refine lv_iconst (v := 0) hx hb dX3_becomeLike_128 (by decide) ?_
  refine lv_aload_n hx hb dX3_becomeLike_129 rfl (lv_at hl 0 rfl) ?_
  refine va_get (D := (dC, dI)) (ci := 3) (v := .ref o5) (C := RX3) (T := TX3) (N := 13) hx hb hts i_X3_becomeLike_X3 hown hK hP 0 rfl rfl 12 (by decide) (hts _ mx_X3_becomeLike_17) (fun _ h9 => h9) rfl dX3_becomeLike_130 ?_
  refine lv_iconst (v := 0) hx hb dX3_becomeLike_133 (by decide) ?_
  refine lv_bipush (v := 6) hx hb dX3_becomeLike_134 (by decide) ?_
  refine va_copyi hx hb (by rw [hml]; exact hl.1.symm) hown (hts _ mx_X3_becomeLike_10) (hts _ mx_X3_becomeLike_11) (hts _ mx_X3_becomeLike_12) (hts _ mx_X3_becomeLike_13) hK hP hD hS 11 5 0 0 rfl rfl rfl rfl rfl (by decide) (by decide) (by decide) (by decide) (by decide) (fun _ _ => rfl) (Nat.le_of_ble_eq_true rfl) (Nat.le_of_ble_eq_true rfl) dX3_becomeLike_136 (fun H locs hP hD hS => ?_)
  generalize hg_5 : va_cpy x5 f5 (0 : Int32).toNatClampNeg (0 : Int32).toNatClampNeg (6 : Int32).toNatClampNeg = g_5 at hP hD
  have hu_5 : g_5 = va_cpy x5 f5 (0 : Int32).toNatClampNeg (0 : Int32).toNatClampNeg (6 : Int32).toNatClampNeg := hg_5.symm
  have hP : va_P (dC, dI) vwCl [(xo_3_iiiiiiiirrrrr h y0 y1 y2 y3 y4 y5 y6 y7 o1 o2 o3 o4 o5), (xI o1 cI 6 g_1), (xI o2 cI 6 g_2), (xI o3 cI 6 g_3), (xI o4 cI 6 g_4), (xI o5 cI 6 g_5), (xo_3_iiiiiiiirrrrr k y0 y1 y2 y3 y4 y5 y6 y7 p1 p2 p3 p4 p5), (xI p1 cI 6 x1), (xI p2 cI 6 x2), (xI p3 cI 6 x3), (xI p4 cI 6 x4), (xI p5 cI 6 x5)] H := hP
  have hD := dto hP hD
  have hX9 := cut2 (wc := [(xo_3_iiiiiiiirrrrr h y0 y1 y2 y3 y4 y5 y6 y7 o1 o2 o3 o4 o5), (xI o1 cI 6 g_1), (xI o2 cI 6 g_2), (xI o3 cI 6 g_3), (xI o4 cI 6 g_4), (xI o5 cI 6 g_5), (xo_3_iiiiiiiirrrrr k y0 y1 y2 y3 y4 y5 y6 y7 p1 p2 p3 p4 p5), (xI p1 cI 6 x1), (xI p2 cI 6 x2), (xI p3 cI 6 x3), (xI p4 cI 6 x4), (xI p5 cI 6 x5)]) hP hD [0, 1, 2, 3, 4, 5, 6, 7, 8, 9, 10, 11] (by decide +kernel) rfl
  exact W.vret hx hb hr (fun t ht hW => ⟨⟨(), rfl, trivial, ⟨g_1, g_2, g_3, g_4, g_5, va_Ht ht hX9.1, hX9.2, (lf_X3_becomeLike_1 hu_1 hu_2 hu_3 hu_4 hu_5), (lf_X3_becomeLike_2 hu_1 hu_2 hu_3 hu_4 hu_5), (lf_X3_becomeLike_3 hu_1 hu_2 hu_3 hu_4 hu_5), (lf_X3_becomeLike_4 hu_1 hu_2 hu_3 hu_4 hu_5), (lf_X3_becomeLike_5 hu_1 hu_2 hu_3 hu_4 hu_5)⟩⟩, hS.F ht⟩) hS.2.2 dX3_becomeLike_139
-- 12.acts_d
theorem dX0_forget_0 : decode cX0_forget 0 = .ok (.aload_n 0, 1) := dq_42 (by decide +kernel)
theorem dX0_forget_1 : decode cX0_forget 1 = .ok (.iconst 0, 1) := dq_3 (by decide +kernel)
theorem dX0_forget_2 : decode cX0_forget 2 = .ok (.putfield 16, 3) := dq_181 (b1 := 0) (b2 := 16) (by decide +kernel) (by decide)
theorem dX0_forget_5 : decode cX0_forget 5 = .ok (.return_, 1) := dq_177 (by decide +kernel)
theorem dX0_keep_0 : decode cX0_keep 0 = .ok (.aload_n 0, 1) := dq_42 (by decide +kernel)
theorem dX0_keep_1 : decode cX0_keep 1 = .ok (.getfield 11, 3) := dq_180 (b1 := 0) (b2 := 11) (by decide +kernel) (by decide)
theorem dX0_keep_10 : decode cX0_keep 10 = .ok (.invokevirtual 23, 3) := dq_182 (b1 := 0) (b2 := 23) (by decide +kernel) (by decide)
theorem dX0_keep_13 : decode cX0_keep 13 = .ok (.aload_n 0, 1) := dq_42 (by decide +kernel)
theorem dX0_keep_14 : decode cX0_keep 14 = .ok (.aload_n 0, 1) := dq_42 (by decide +kernel)
theorem dX0_keep_15 : decode cX0_keep 15 = .ok (.getfield 20, 3) := dq_180 (b1 := 0) (b2 := 20) (by decide +kernel) (by decide)
theorem dX0_keep_18 : decode cX0_keep 18 = .ok (.iconst 1, 1) := dq_4 (by decide +kernel)
theorem dX0_keep_19 : decode cX0_keep 19 = .ok (.iadd, 1) := dq_96 (by decide +kernel)
theorem dX0_keep_20 : decode cX0_keep 20 = .ok (.bipush 24, 2) := dq_16 (b1 := 24) (by decide +kernel) (by decide)
theorem dX0_keep_22 : decode cX0_keep 22 = .ok (.irem, 1) := dq_112 (by decide +kernel)
theorem dX0_keep_23 : decode cX0_keep 23 = .ok (.putfield 20, 3) := dq_181 (b1 := 0) (b2 := 20) (by decide +kernel) (by decide)
theorem dX0_keep_26 : decode cX0_keep 26 = .ok (.aload_n 0, 1) := dq_42 (by decide +kernel)
theorem dX0_keep_27 : decode cX0_keep 27 = .ok (.aload_n 0, 1) := dq_42 (by decide +kernel)
theorem dX0_keep_28 : decode cX0_keep 28 = .ok (.getfield 16, 3) := dq_180 (b1 := 0) (b2 := 16) (by decide +kernel) (by decide)
theorem dX0_keep_31 : decode cX0_keep 31 = .ok (.iconst 1, 1) := dq_4 (by decide +kernel)
theorem dX0_keep_32 : decode cX0_keep 32 = .ok (.iadd, 1) := dq_96 (by decide +kernel)
theorem dX0_keep_33 : decode cX0_keep 33 = .ok (.bipush 24, 2) := dq_16 (b1 := 24) (by decide +kernel) (by decide)
theorem dX0_keep_35 : decode cX0_keep 35 = .ok (.invokestatic 27, 3) := dq_184 (b1 := 0) (b2 := 27) (by decide +kernel) (by decide)
theorem dX0_keep_38 : decode cX0_keep 38 = .ok (.putfield 16, 3) := dq_181 (b1 := 0) (b2 := 16) (by decide +kernel) (by decide)
theorem dX0_keep_4 : decode cX0_keep 4 = .ok (.aload_n 0, 1) := dq_42 (by decide +kernel)
theorem dX0_keep_41 : decode cX0_keep 41 = .ok (.return_, 1) := dq_177 (by decide +kernel)
theorem dX0_keep_5 : decode cX0_keep 5 = .ok (.getfield 20, 3) := dq_180 (b1 := 0) (b2 := 20) (by decide +kernel) (by decide)
theorem dX0_keep_8 : decode cX0_keep 8 = .ok (.aaload, 1) := dq_50 (by decide +kernel)
theorem dX0_keep_9 : decode cX0_keep 9 = .ok (.aload_n 1, 1) := dq_43 (by decide +kernel)
theorem dX0_takeBack_0 : decode cX0_takeBack 0 = .ok (.aload_n 0, 1) := dq_42 (by decide +kernel)
theorem dX0_takeBack_1 : decode cX0_takeBack 1 = .ok (.getfield 16, 3) := dq_180 (b1 := 0) (b2 := 16) (by decide +kernel) (by decide)
theorem dX0_takeBack_12 : decode cX0_takeBack 12 = .ok (.bipush 24, 2) := dq_16 (b1 := 24) (by decide +kernel) (by decide)
theorem dX0_takeBack_14 : decode cX0_takeBack 14 = .ok (.iadd, 1) := dq_96 (by decide +kernel)
theorem dX0_takeBack_15 : decode cX0_takeBack 15 = .ok (.iconst 1, 1) := dq_4 (by decide +kernel)
theorem dX0_takeBack_16 : decode cX0_takeBack 16 = .ok (.isub, 1) := dq_100 (by decide +kernel)
theorem dX0_takeBack_17 : decode cX0_takeBack 17 = .ok (.bipush 24, 2) := dq_16 (b1 := 24) (by decide +kernel) (by decide)
theorem dX0_takeBack_19 : decode cX0_takeBack 19 = .ok (.irem, 1) := dq_112 (by decide +kernel)
theorem dX0_takeBack_20 : decode cX0_takeBack 20 = .ok (.putfield 20, 3) := dq_181 (b1 := 0) (b2 := 20) (by decide +kernel) (by decide)
theorem dX0_takeBack_23 : decode cX0_takeBack 23 = .ok (.aload_n 1, 1) := dq_43 (by decide +kernel)
theorem dX0_takeBack_24 : decode cX0_takeBack 24 = .ok (.aload_n 0, 1) := dq_42 (by decide +kernel)
theorem dX0_takeBack_25 : decode cX0_takeBack 25 = .ok (.getfield 11, 3) := dq_180 (b1 := 0) (b2 := 11) (by decide +kernel) (by decide)
theorem dX0_takeBack_28 : decode cX0_takeBack 28 = .ok (.aload_n 0, 1) := dq_42 (by decide +kernel)
theorem dX0_takeBack_29 : decode cX0_takeBack 29 = .ok (.getfield 20, 3) := dq_180 (b1 := 0) (b2 := 20) (by decide +kernel) (by decide)
theorem dX0_takeBack_32 : decode cX0_takeBack 32 = .ok (.aaload, 1) := dq_50 (by decide +kernel)
theorem dX0_takeBack_33 : decode cX0_takeBack 33 = .ok (.invokevirtual 23, 3) := dq_182 (b1 := 0) (b2 := 23) (by decide +kernel) (by decide)
theorem dX0_takeBack_36 : decode cX0_takeBack 36 = .ok (.aload_n 0, 1) := dq_42 (by decide +kernel)
theorem dX0_takeBack_37 : decode cX0_takeBack 37 = .ok (.dup, 1) := dq_89 (by decide +kernel)
theorem dX0_takeBack_38 : decode cX0_takeBack 38 = .ok (.getfield 16, 3) := dq_180 (b1 := 0) (b2 := 16) (by decide +kernel) (by decide)
theorem dX0_takeBack_4 : decode cX0_takeBack 4 = .ok (.ifCond .le 42, 3) := dq_158 (b1 := 0) (b2 := 42) (by decide +kernel) (by decide)
theorem dX0_takeBack_41 : decode cX0_takeBack 41 = .ok (.iconst 1, 1) := dq_4 (by decide +kernel)
theorem dX0_takeBack_42 : decode cX0_takeBack 42 = .ok (.isub, 1) := dq_100 (by decide +kernel)
theorem dX0_takeBack_43 : decode cX0_takeBack 43 = .ok (.putfield 16, 3) := dq_181 (b1 := 0) (b2 := 16) (by decide +kernel) (by decide)
theorem dX0_takeBack_46 : decode cX0_takeBack 46 = .ok (.return_, 1) := dq_177 (by decide +kernel)
theorem dX0_takeBack_7 : decode cX0_takeBack 7 = .ok (.aload_n 0, 1) := dq_42 (by decide +kernel)
theorem dX0_takeBack_8 : decode cX0_takeBack 8 = .ok (.aload_n 0, 1) := dq_42 (by decide +kernel)
theorem dX0_takeBack_9 : decode cX0_takeBack 9 = .ok (.getfield 20, 3) := dq_180 (b1 := 0) (b2 := 20) (by decide +kernel) (by decide)
theorem mb_X0_keep_wsX0_keep_r1 {w : Cond} (h : w ∈ wsX0_keep_r1) : w ∈ wsX0_keep := by unfold wsX0_keep; exact List.mem_cons_of_mem _ (List.mem_append_left _ (List.mem_append_left _ (List.mem_append_left _ (h))))
theorem mx_X0_keep_12 : Cond.code yX3_becomeLike cX3_becomeLike 2 none ∈ wsX0_keep := mb_X0_keep_wsX0_keep_r1 (List.mem_of_getElem? (i := 11) rfl)
theorem mx_X0_keep_13 : Cond.fieldLink RX3 27 "MillTalk$Level" "cells" "I" ∈ wsX0_keep := mb_X0_keep_wsX0_keep_r1 (List.mem_of_getElem? (i := 12) rfl)
theorem mx_X0_keep_14 : Cond.fieldLink RX3 31 "MillTalk$Level" "mill" "I" ∈ wsX0_keep := mb_X0_keep_wsX0_keep_r1 (List.mem_of_getElem? (i := 13) rfl)
theorem mx_X0_keep_15 : Cond.fieldLink RX3 34 "MillTalk$Level" "reach" "I" ∈ wsX0_keep := mb_X0_keep_wsX0_keep_r1 (List.mem_of_getElem? (i := 14) rfl)
theorem mx_X0_keep_16 : Cond.fieldLink RX3 37 "MillTalk$Level" "cap" "I" ∈ wsX0_keep := mb_X0_keep_wsX0_keep_r1 (List.mem_of_getElem? (i := 15) rfl)
theorem mx_X0_keep_17 : Cond.fieldLink RX3 40 "MillTalk$Level" "hour" "I" ∈ wsX0_keep := mb_X0_keep_wsX0_keep_r1 (List.mem_of_getElem? (i := 16) rfl)
theorem mx_X0_keep_18 : Cond.fieldLink RX3 43 "MillTalk$Level" "meal" "I" ∈ wsX0_keep := mb_X0_keep_wsX0_keep_r1 (List.mem_of_getElem? (i := 17) rfl)
theorem mx_X0_keep_19 : Cond.fieldLink RX3 46 "MillTalk$Level" "windCount" "I" ∈ wsX0_keep := mb_X0_keep_wsX0_keep_r1 (List.mem_of_getElem? (i := 18) rfl)
theorem mx_X0_keep_20 : Cond.fieldLink RX3 49 "MillTalk$Level" "soundCount" "I" ∈ wsX0_keep := mb_X0_keep_wsX0_keep_r1 (List.mem_of_getElem? (i := 19) rfl)
theorem mx_X0_keep_21 : Cond.fieldLink RX3 9 "MillTalk$Level" "winds" "[I" ∈ wsX0_keep := mb_X0_keep_wsX0_keep_r1 (List.mem_of_getElem? (i := 20) rfl)
theorem mx_X0_keep_22 : Cond.methodLink RX3 52 arraycopyName ∈ wsX0_keep := mb_X0_keep_wsX0_keep_r1 (List.mem_of_getElem? (i := 21) rfl)
theorem mx_X0_keep_23 : Cond.native arraycopyName ∈ wsX0_keep := mb_X0_keep_wsX0_keep_r1 (List.mem_of_getElem? (i := 22) rfl)
theorem mx_X0_keep_24 : Cond.static arraycopyName ∈ wsX0_keep := mb_X0_keep_wsX0_keep_r1 (List.mem_of_getElem? (i := 23) rfl)
theorem mb_X0_keep_wsX0_keep_r2 {w : Cond} (h : w ∈ wsX0_keep_r2) : w ∈ wsX0_keep := by unfold wsX0_keep; exact List.mem_cons_of_mem _ (List.mem_append_left _ (List.mem_append_left _ (List.mem_append_right _ (h))))
theorem mx_X0_keep_25 : Cond.initialized "java/lang/System" ∈ wsX0_keep := mb_X0_keep_wsX0_keep_r2 (List.mem_of_getElem? (i := 0) rfl)
theorem mx_X0_keep_26 : Cond.fieldLink RX3 15 "MillTalk$Level" "kinds" "[I" ∈ wsX0_keep := mb_X0_keep_wsX0_keep_r2 (List.mem_of_getElem? (i := 1) rfl)
theorem mx_X0_keep_27 : Cond.fieldLink RX3 18 "MillTalk$Level" "places" "[I" ∈ wsX0_keep := mb_X0_keep_wsX0_keep_r2 (List.mem_of_getElem? (i := 2) rfl)
theorem mx_X0_keep_28 : Cond.fieldLink RX3 21 "MillTalk$Level" "louds" "[I" ∈ wsX0_keep := mb_X0_keep_wsX0_keep_r2 (List.mem_of_getElem? (i := 3) rfl)
theorem mx_X0_keep_29 : Cond.fieldLink RX3 24 "MillTalk$Level" "hows" "[I" ∈ wsX0_keep := mb_X0_keep_wsX0_keep_r2 (List.mem_of_getElem? (i := 4) rfl)
theorem mb_X0_keep_wsX30 {w : Cond} (h : w ∈ wsX30) : w ∈ wsX0_keep := by unfold wsX0_keep; exact List.mem_cons_of_mem _ (List.mem_append_right _ (h))
theorem ggX0_keep_X3_becomeLike : GoodIn wsX0_keep wsX3_becomeLike := goodIn_sub (by unfold wsX3_becomeLike; exact List.forall_mem_cons.mpr ⟨mx_X0_keep_12, List.forall_mem_append.mpr ⟨List.forall_mem_cons.mpr ⟨mx_X0_keep_13, List.forall_mem_cons.mpr ⟨mx_X0_keep_14, List.forall_mem_cons.mpr ⟨mx_X0_keep_15, List.forall_mem_cons.mpr ⟨mx_X0_keep_16, List.forall_mem_cons.mpr ⟨mx_X0_keep_17, List.forall_mem_cons.mpr ⟨mx_X0_keep_18, List.forall_mem_cons.mpr ⟨mx_X0_keep_19, List.forall_mem_cons.mpr ⟨mx_X0_keep_20, List.forall_mem_cons.mpr ⟨mx_X0_keep_21, List.forall_mem_cons.mpr ⟨mx_X0_keep_22, List.forall_mem_cons.mpr ⟨mx_X0_keep_23, List.forall_mem_cons.mpr ⟨mx_X0_keep_24, List.forall_mem_cons.mpr ⟨mx_X0_keep_25, List.forall_mem_cons.mpr ⟨mx_X0_keep_26, List.forall_mem_cons.mpr ⟨mx_X0_keep_27, List.forall_mem_cons.mpr ⟨mx_X0_keep_28, List.forall_mem_cons.mpr ⟨mx_X0_keep_29, fun _ h_ => absurd h_ List.not_mem_nil⟩⟩⟩⟩⟩⟩⟩⟩⟩⟩⟩⟩⟩⟩⟩⟩⟩, (fun _ h_ => mb_X0_keep_wsX30 h_)⟩⟩) (by decide +kernel)
theorem mx_X0_keep_8 : Cond.methodLink RX0 23 yX3_becomeLike ∈ wsX0_keep := mb_X0_keep_wsX0_keep_r1 (List.mem_of_getElem? (i := 7) rfl)
theorem mx_X0_keep_9 : Cond.instanceMethod yX3_becomeLike ∈ wsX0_keep := mb_X0_keep_wsX0_keep_r1 (List.mem_of_getElem? (i := 8) rfl)
theorem mx_X0_keep_10 : Cond.selects RX3 yX3_becomeLike yX3_becomeLike ∈ wsX0_keep := mb_X0_keep_wsX0_keep_r1 (List.mem_of_getElem? (i := 9) rfl)
theorem mx_X0_keep_11 : Cond.initialized RX3 ∈ wsX0_keep := mb_X0_keep_wsX0_keep_r1 (List.mem_of_getElem? (i := 10) rfl)
theorem gX0_keep_X3_becomeLike : GoodIn wsX0_keep (wsV RX0 23 RX3 yX3_becomeLike wsX3_becomeLike) := goodIn_app (goodIn_sub (List.forall_mem_cons.mpr ⟨mx_X0_keep_8, List.forall_mem_cons.mpr ⟨mx_X0_keep_9, List.forall_mem_cons.mpr ⟨mx_X0_keep_10, List.forall_mem_cons.mpr ⟨mx_X0_keep_11, fun _ h_ => absurd h_ List.not_mem_nil⟩⟩⟩⟩) (by decide +kernel)) ggX0_keep_X3_becomeLike
theorem mb_X0_takeBack_wsX0_takeBack_r1 {w : Cond} (h : w ∈ wsX0_takeBack_r1) : w ∈ wsX0_takeBack := by unfold wsX0_takeBack; exact List.mem_cons_of_mem _ (List.mem_append_left _ (List.mem_append_left _ (List.mem_append_left _ (h))))
theorem mx_X0_takeBack_8 : Cond.code yX3_becomeLike cX3_becomeLike 2 none ∈ wsX0_takeBack := mb_X0_takeBack_wsX0_takeBack_r1 (List.mem_of_getElem? (i := 7) rfl)
theorem mx_X0_takeBack_9 : Cond.fieldLink RX3 27 "MillTalk$Level" "cells" "I" ∈ wsX0_takeBack := mb_X0_takeBack_wsX0_takeBack_r1 (List.mem_of_getElem? (i := 8) rfl)
theorem mx_X0_takeBack_10 : Cond.fieldLink RX3 31 "MillTalk$Level" "mill" "I" ∈ wsX0_takeBack := mb_X0_takeBack_wsX0_takeBack_r1 (List.mem_of_getElem? (i := 9) rfl)
theorem mx_X0_takeBack_11 : Cond.fieldLink RX3 34 "MillTalk$Level" "reach" "I" ∈ wsX0_takeBack := mb_X0_takeBack_wsX0_takeBack_r1 (List.mem_of_getElem? (i := 10) rfl)
theorem mx_X0_takeBack_12 : Cond.fieldLink RX3 37 "MillTalk$Level" "cap" "I" ∈ wsX0_takeBack := mb_X0_takeBack_wsX0_takeBack_r1 (List.mem_of_getElem? (i := 11) rfl)
theorem mx_X0_takeBack_13 : Cond.fieldLink RX3 40 "MillTalk$Level" "hour" "I" ∈ wsX0_takeBack := mb_X0_takeBack_wsX0_takeBack_r1 (List.mem_of_getElem? (i := 12) rfl)
theorem mx_X0_takeBack_14 : Cond.fieldLink RX3 43 "MillTalk$Level" "meal" "I" ∈ wsX0_takeBack := mb_X0_takeBack_wsX0_takeBack_r1 (List.mem_of_getElem? (i := 13) rfl)
theorem mx_X0_takeBack_15 : Cond.fieldLink RX3 46 "MillTalk$Level" "windCount" "I" ∈ wsX0_takeBack := mb_X0_takeBack_wsX0_takeBack_r1 (List.mem_of_getElem? (i := 14) rfl)
theorem mx_X0_takeBack_16 : Cond.fieldLink RX3 49 "MillTalk$Level" "soundCount" "I" ∈ wsX0_takeBack := mb_X0_takeBack_wsX0_takeBack_r1 (List.mem_of_getElem? (i := 15) rfl)
theorem mx_X0_takeBack_17 : Cond.fieldLink RX3 9 "MillTalk$Level" "winds" "[I" ∈ wsX0_takeBack := mb_X0_takeBack_wsX0_takeBack_r1 (List.mem_of_getElem? (i := 16) rfl)
theorem mx_X0_takeBack_18 : Cond.methodLink RX3 52 arraycopyName ∈ wsX0_takeBack := mb_X0_takeBack_wsX0_takeBack_r1 (List.mem_of_getElem? (i := 17) rfl)
theorem mx_X0_takeBack_19 : Cond.native arraycopyName ∈ wsX0_takeBack := mb_X0_takeBack_wsX0_takeBack_r1 (List.mem_of_getElem? (i := 18) rfl)
theorem mx_X0_takeBack_20 : Cond.static arraycopyName ∈ wsX0_takeBack := mb_X0_takeBack_wsX0_takeBack_r1 (List.mem_of_getElem? (i := 19) rfl)
theorem mx_X0_takeBack_21 : Cond.initialized "java/lang/System" ∈ wsX0_takeBack := mb_X0_takeBack_wsX0_takeBack_r1 (List.mem_of_getElem? (i := 20) rfl)
theorem mx_X0_takeBack_22 : Cond.fieldLink RX3 15 "MillTalk$Level" "kinds" "[I" ∈ wsX0_takeBack := mb_X0_takeBack_wsX0_takeBack_r1 (List.mem_of_getElem? (i := 21) rfl)
theorem mx_X0_takeBack_23 : Cond.fieldLink RX3 18 "MillTalk$Level" "places" "[I" ∈ wsX0_takeBack := mb_X0_takeBack_wsX0_takeBack_r1 (List.mem_of_getElem? (i := 22) rfl)
theorem mx_X0_takeBack_24 : Cond.fieldLink RX3 21 "MillTalk$Level" "louds" "[I" ∈ wsX0_takeBack := mb_X0_takeBack_wsX0_takeBack_r1 (List.mem_of_getElem? (i := 23) rfl)
theorem mb_X0_takeBack_wsX0_takeBack_r2 {w : Cond} (h : w ∈ wsX0_takeBack_r2) : w ∈ wsX0_takeBack := by unfold wsX0_takeBack; exact List.mem_cons_of_mem _ (List.mem_append_left _ (List.mem_append_left _ (List.mem_append_right _ (h))))
theorem mx_X0_takeBack_25 : Cond.fieldLink RX3 24 "MillTalk$Level" "hows" "[I" ∈ wsX0_takeBack := mb_X0_takeBack_wsX0_takeBack_r2 (List.mem_of_getElem? (i := 0) rfl)
theorem mb_X0_takeBack_wsX30 {w : Cond} (h : w ∈ wsX30) : w ∈ wsX0_takeBack := by unfold wsX0_takeBack; exact List.mem_cons_of_mem _ (List.mem_append_right _ (h))
theorem ggX0_takeBack_X3_becomeLike : GoodIn wsX0_takeBack wsX3_becomeLike := goodIn_sub (by unfold wsX3_becomeLike; exact List.forall_mem_cons.mpr ⟨mx_X0_takeBack_8, List.forall_mem_append.mpr ⟨List.forall_mem_cons.mpr ⟨mx_X0_takeBack_9, List.forall_mem_cons.mpr ⟨mx_X0_takeBack_10, List.forall_mem_cons.mpr ⟨mx_X0_takeBack_11, List.forall_mem_cons.mpr ⟨mx_X0_takeBack_12, List.forall_mem_cons.mpr ⟨mx_X0_takeBack_13, List.forall_mem_cons.mpr ⟨mx_X0_takeBack_14, List.forall_mem_cons.mpr ⟨mx_X0_takeBack_15, List.forall_mem_cons.mpr ⟨mx_X0_takeBack_16, List.forall_mem_cons.mpr ⟨mx_X0_takeBack_17, List.forall_mem_cons.mpr ⟨mx_X0_takeBack_18, List.forall_mem_cons.mpr ⟨mx_X0_takeBack_19, List.forall_mem_cons.mpr ⟨mx_X0_takeBack_20, List.forall_mem_cons.mpr ⟨mx_X0_takeBack_21, List.forall_mem_cons.mpr ⟨mx_X0_takeBack_22, List.forall_mem_cons.mpr ⟨mx_X0_takeBack_23, List.forall_mem_cons.mpr ⟨mx_X0_takeBack_24, List.forall_mem_cons.mpr ⟨mx_X0_takeBack_25, fun _ h_ => absurd h_ List.not_mem_nil⟩⟩⟩⟩⟩⟩⟩⟩⟩⟩⟩⟩⟩⟩⟩⟩⟩, (fun _ h_ => mb_X0_takeBack_wsX30 h_)⟩⟩) (by decide +kernel)
theorem mx_X0_takeBack_4 : Cond.methodLink RX0 23 yX3_becomeLike ∈ wsX0_takeBack := mb_X0_takeBack_wsX0_takeBack_r1 (List.mem_of_getElem? (i := 3) rfl)
theorem mx_X0_takeBack_5 : Cond.instanceMethod yX3_becomeLike ∈ wsX0_takeBack := mb_X0_takeBack_wsX0_takeBack_r1 (List.mem_of_getElem? (i := 4) rfl)
theorem mx_X0_takeBack_6 : Cond.selects RX3 yX3_becomeLike yX3_becomeLike ∈ wsX0_takeBack := mb_X0_takeBack_wsX0_takeBack_r1 (List.mem_of_getElem? (i := 5) rfl)
theorem mx_X0_takeBack_7 : Cond.initialized RX3 ∈ wsX0_takeBack := mb_X0_takeBack_wsX0_takeBack_r1 (List.mem_of_getElem? (i := 6) rfl)
theorem gX0_takeBack_X3_becomeLike : GoodIn wsX0_takeBack (wsV RX0 23 RX3 yX3_becomeLike wsX3_becomeLike) := goodIn_app (goodIn_sub (List.forall_mem_cons.mpr ⟨mx_X0_takeBack_4, List.forall_mem_cons.mpr ⟨mx_X0_takeBack_5, List.forall_mem_cons.mpr ⟨mx_X0_takeBack_6, List.forall_mem_cons.mpr ⟨mx_X0_takeBack_7, fun _ h_ => absurd h_ List.not_mem_nil⟩⟩⟩⟩) (by decide +kernel)) ggX0_takeBack_X3_becomeLike
theorem mb_X0_forget_wsX00 {w : Cond} (h : w ∈ wsX00) : w ∈ wsX0_forget := by unfold wsX0_forget; exact List.mem_cons_of_mem _ (List.mem_append_right _ (h))
theorem i_X0_forget_X0 : ∀ w ∈ u_ws RX0 TX0 3, w ∈ wsX0_forget := fun _ h_ => mb_X0_forget_wsX00 h_
theorem mb_X0_keep_wsX00 {w : Cond} (h : w ∈ wsX00) : w ∈ wsX0_keep := by unfold wsX0_keep; exact List.mem_cons_of_mem _ (List.mem_append_left _ (List.mem_append_right _ (h)))
theorem i_X0_keep_X0 : ∀ w ∈ u_ws RX0 TX0 3, w ∈ wsX0_keep := fun _ h_ => mb_X0_keep_wsX00 h_
theorem mb_X0_takeBack_wsX00 {w : Cond} (h : w ∈ wsX00) : w ∈ wsX0_takeBack := by unfold wsX0_takeBack; exact List.mem_cons_of_mem _ (List.mem_append_left _ (List.mem_append_right _ (h)))
theorem i_X0_takeBack_X0 : ∀ w ∈ u_ws RX0 TX0 3, w ∈ wsX0_takeBack := fun _ h_ => mb_X0_takeBack_wsX00 h_
theorem mx_X0_keep_1 : Cond.fieldLink RX0 11 "MillTalk$Acts" "before" "[LMillTalk$Level;" ∈ wsX0_keep := mb_X0_keep_wsX0_keep_r1 (List.mem_of_getElem? (i := 0) rfl)
theorem mx_X0_keep_2 : Cond.fieldLink RX0 20 "MillTalk$Acts" "next" "I" ∈ wsX0_keep := mb_X0_keep_wsX0_keep_r1 (List.mem_of_getElem? (i := 1) rfl)
theorem mx_X0_keep_3 : Cond.fieldLink RX0 16 "MillTalk$Acts" "size" "I" ∈ wsX0_keep := mb_X0_keep_wsX0_keep_r1 (List.mem_of_getElem? (i := 2) rfl)
theorem mx_X0_keep_4 : Cond.methodLink RX0 27 Lib.Math.min.name ∈ wsX0_keep := mb_X0_keep_wsX0_keep_r1 (List.mem_of_getElem? (i := 3) rfl)
theorem mx_X0_keep_5 : Cond.static Lib.Math.min.name ∈ wsX0_keep := mb_X0_keep_wsX0_keep_r1 (List.mem_of_getElem? (i := 4) rfl)
theorem mx_X0_keep_6 : Cond.initialized "java/lang/Math" ∈ wsX0_keep := mb_X0_keep_wsX0_keep_r1 (List.mem_of_getElem? (i := 5) rfl)
theorem mx_X0_keep_7 : Cond.code Lib.Math.min.name Lib.Math.min.code 2 (some .int) ∈ wsX0_keep := mb_X0_keep_wsX0_keep_r1 (List.mem_of_getElem? (i := 6) rfl)
theorem mx_X0_takeBack_1 : Cond.fieldLink RX0 16 "MillTalk$Acts" "size" "I" ∈ wsX0_takeBack := mb_X0_takeBack_wsX0_takeBack_r1 (List.mem_of_getElem? (i := 0) rfl)
theorem mx_X0_takeBack_2 : Cond.fieldLink RX0 20 "MillTalk$Acts" "next" "I" ∈ wsX0_takeBack := mb_X0_takeBack_wsX0_takeBack_r1 (List.mem_of_getElem? (i := 1) rfl)
theorem mx_X0_takeBack_3 : Cond.fieldLink RX0 11 "MillTalk$Acts" "before" "[LMillTalk$Level;" ∈ wsX0_takeBack := mb_X0_takeBack_wsX0_takeBack_r1 (List.mem_of_getElem? (i := 2) rfl)
theorem mx_X0_forget_1 : Cond.fieldLink RX0 16 "MillTalk$Acts" "size" "I" ∈ wsX0_forget := by unfold wsX0_forget; exact List.mem_cons_of_mem _ (List.mem_append_left _ (List.mem_of_getElem? (i := 0) rfl))
-- 13.acts
set_option maxHeartbeats 4000000 in
set_option maxRecDepth 100000 in
theorem r_X0_keep (l : Launch) (dC : Nat → ClassId) (dI : Nat → Nat → Nat) (cI cZ cL cJ : ClassId) (sz : Nat) (a0 : Nat) (be : Nat) (q : Nat) (z : Nat) (fb : Nat → Option Nat) (ad : Nat → Nat) (bd : Nat → Nat → Nat) (V : Nat → Nat → Int32) (G : Nat → Nat → Nat → Int32) (h : Nat) (v0 : Int32) (v1 : Int32) (v2 : Int32) (v3 : Int32) (v5 : Int32) (hh : Nat) (ww : Nat) (kk : Nat) (b1 : Nat) (b2 : Nat) (b3 : Nat) (b4 : Nat) (b5 : Nat) (g1 : Nat → Int32) (g2 : Nat → Int32) (g3 : Nat → Int32) (g4 : Nat → Int32) (g5 : Nat → Int32) (hfb : ∀ i : Nat, i < 24 → fb i = some (ad i)) (hok : ∀ i : Nat, i < 24 → okL (V i)) (hq : q < 24) (hz : z ≤ 24) (hhb : hh ≤ 999) (hww : ww ≤ 6) (hkk : kk ≤ 6) : Met l yX0_keep wsX0_keep ({ frames := 2, cells := 0, slots := 0, locals := 101 }) (va_Pc [.ref a0, .ref h] (fun U => U.heap.size = sz ∧ va_P (dC, dI) vwCl (([(xo_0_rii a0 be (nI q) (nI z)), (xJ be cL 24 fb), (xo_3_iiiiiiiirrrrr h v0 v1 v2 v3 (nI hh) v5 (nI ww) (nI kk) b1 b2 b3 b4 b5), (xI b1 cI 6 g1), (xI b2 cI 6 g2), (xI b3 cI 6 g3), (xI b4 cI 6 g4), (xI b5 cI 6 g5)] : va_W) ++ lvs cI 24 ad bd V G) U.heap ∧ va_K (dC, dI) vwCl [(cI, .int), (cZ, .boolean), (cL, .object RX3), (cJ, .array .int)] U ∧ va_D (fun _ => True) (([(xo_0_rii a0 be (nI q) (nI z)), (xJ be cL 24 fb), (xo_3_iiiiiiiirrrrr h v0 v1 v2 v3 (nI hh) v5 (nI ww) (nI kk) b1 b2 b3 b4 b5), (xI b1 cI 6 g1), (xI b2 cI 6 g2), (xI b3 cI 6 g3), (xI b4 cI 6 g4), (xI b5 cI 6 g5)] : va_W) ++ lvs cI 24 ad bd V G))) (va_Qv (fun (_ : Unit) => True) (fun (_ : Unit) t => ∃ (Vn : Nat → Nat → Int32) (Gn : Nat → Nat → Nat → Int32) (qn : Nat) (zn : Nat), va_P (dC, dI) vwCl (([(xo_0_rii a0 be (nI qn) (nI zn)), (xJ be cL 24 fb), (xo_3_iiiiiiiirrrrr h v0 v1 v2 v3 (nI hh) v5 (nI ww) (nI kk) b1 b2 b3 b4 b5), (xI b1 cI 6 g1), (xI b2 cI 6 g2), (xI b3 cI 6 g3), (xI b4 cI 6 g4), (xI b5 cI 6 g5)] : va_W) ++ lvs cI 24 ad bd Vn Gn) t.heap ∧ va_D (va_A (([(xo_0_rii a0 be (nI q) (nI z)), (xJ be cL 24 fb), (xo_3_iiiiiiiirrrrr h v0 v1 v2 v3 (nI hh) v5 (nI ww) (nI kk) b1 b2 b3 b4 b5), (xI b1 cI 6 g1), (xI b2 cI 6 g2), (xI b3 cI 6 g3), (xI b4 cI 6 g4), (xI b5 cI 6 g5)] : va_W) ++ lvs cI 24 ad bd V G) sz) (([(xo_0_rii a0 be (nI qn) (nI zn)), (xJ be cL 24 fb), (xo_3_iiiiiiiirrrrr h v0 v1 v2 v3 (nI hh) v5 (nI ww) (nI kk) b1 b2 b3 b4 b5), (xI b1 cI 6 g1), (xI b2 cI 6 g2), (xI b3 cI 6 g3), (xI b4 cI 6 g4), (xI b5 cI 6 g5)] : va_W) ++ lvs cI 24 ad bd Vn Gn) ∧ (∀ i : Nat, i < 24 → okL (Vn i)) ∧ qn < 24 ∧ zn ≤ 24 ∧ nrV (Vn q) (Gn q) = (nrm v0 v1 v2 v3 hh v5 ww kk g1 g2 g3 g4 g5) ∧ (∀ i : Nat, i < 24 → i ≠ q → nrV (Vn i) (Gn i) = nrV (V i) (G i)) ∧ qn = (q + 1) % 24 ∧ zn = ntN z) (va_A (([(xo_0_rii a0 be (nI q) (nI z)), (xJ be cL 24 fb), (xo_3_iiiiiiiirrrrr h v0 v1 v2 v3 (nI hh) v5 (nI ww) (nI kk) b1 b2 b3 b4 b5), (xI b1 cI 6 g1), (xI b2 cI 6 g2), (xI b3 cI 6 g3), (xI b4 cI 6 g4), (xI b5 cI 6 g5)] : va_W) ++ lvs cI 24 ad bd V G) sz)) 0 0 (va_A (([(xo_0_rii a0 be (nI q) (nI z)), (xJ be cL 24 fb), (xo_3_iiiiiiiirrrrr h v0 v1 v2 v3 (nI hh) v5 (nI ww) (nI kk) b1 b2 b3 b4 b5), (xI b1 cI 6 g1), (xI b2 cI 6 g2), (xI b3 cI 6 g3), (xI b4 cI 6 g4), (xI b5 cI 6 g5)] : va_W) ++ lvs cI 24 ad bd V G) sz) := by
  refine Met.ofW (cc := cX0_keep) (maxL := 2) (ret := none) (by decide) rfl ?_
  intro p e s m args below meth c s₁ B hml hv
  obtain ⟨rfl, hsz, hP, hK, hD0⟩ := hv
  have hx := B.exec
  have hb := B.bytes
  have hr := B.returns
  have hts := atoms_spec (ws := wsX0_keep) B.pre
  have hown : s.vm.findClass RX0 = some m.cls := findClass_of_methodNamed B.named
  have hlocks := B.notSynchronized
  subst hsz
  have hD := hD0.self (sz := s.heap.size)
  generalize hAe : va_A (([(xo_0_rii a0 be (nI q) (nI z)), (xJ be cL 24 fb), (xo_3_iiiiiiiirrrrr h v0 v1 v2 v3 (nI hh) v5 (nI ww) (nI kk) b1 b2 b3 b4 b5), (xI b1 cI 6 g1), (xI b2 cI 6 g2), (xI b3 cI 6 g3), (xI b4 cI 6 g4), (xI b5 cI 6 g5)] : va_W) ++ lvs cI 24 ad bd V G) s.heap.size = A at hD ⊢
  have hA : ∀ q : Nat, s.heap.size ≤ q → A q := fun q h => by rw [← hAe]; exact Or.inr h
  have hS : va_S A s.heap s.heap [] := va_S.rf
  have hP : va_P (dC, dI) vwCl (([(xo_0_rii a0 be (nI q) (nI z)), (xJ be cL 24 fb), (xo_3_iiiiiiiirrrrr h v0 v1 v2 v3 (nI hh) v5 (nI ww) (nI kk) b1 b2 b3 b4 b5), (xI b1 cI 6 g1), (xI b2 cI 6 g2), (xI b3 cI 6 g3), (xI b4 cI 6 g4), (xI b5 cI 6 g5)] : va_W) ++ lvs cI 24 ad bd V G) s.heap := hP
  have hl := lv_entry ([.ref a0, .ref h]) (n := 2) (Nat.le_of_ble_eq_true rfl)
  rw [lg_entry_eq]
  generalize (lg_sl ([.ref a0, .ref h]) ++ List.replicate (2 - (lg_sl ([.ref a0, .ref h])).length) Slot.unset).toArray = ls at hl ⊢
  have hl : lv_has ls 2 [(0, .ref a0), (1, .ref h)] := hl
  refine lv_aload_n hx hb dX0_keep_0 rfl (lv_at hl 0 rfl) ?_
  refine va_get (D := (dC, dI)) (ci := 0) (v := .ref be) (C := RX0) (T := TX0) (N := 3) hx hb hts i_X0_keep_X0 hown hK hP 0 rfl rfl 0 (by decide) (hts _ mx_X0_keep_1) (fun _ h9 => h9) rfl dX0_keep_1 ?_
  refine lv_aload_n hx hb dX0_keep_4 rfl (lv_at hl 0 rfl) ?_
  refine va_get (D := (dC, dI)) (ci := 0) (v := .int (nI q)) (C := RX0) (T := TX0) (N := 3) hx hb hts i_X0_keep_X0 hown hK hP 0 rfl rfl 1 (by decide) (hts _ mx_X0_keep_2) (fun _ h9 => h9) rfl dX0_keep_5 ?_
  refine va_aldq hx hb hK hP 1 2 rfl rfl (vp_in_nI (by omega) (by omega)) dX0_keep_8 ?_
  refine W.eq (g2 := F0 m 9 ls (.ref (ad q) :: [])) (by show F0 m 9 ls (va_rf (fb (nI q).toNatClampNeg) :: _) = _; rw [nI_clamp (by omega), hfb _ (by omega)]; rfl) ?_
  obtain ⟨pl_1, hP, hD, hbP_1, hbD_1⟩ := blk_opn hP hD (i := q) (by omega)
  have hP : va_P (dC, dI) vwCl (([(xo_0_rii a0 be (nI q) (nI z)), (xJ be cL 24 fb), (xo_3_iiiiiiiirrrrr h v0 v1 v2 v3 (nI hh) v5 (nI ww) (nI kk) b1 b2 b3 b4 b5), (xI b1 cI 6 g1), (xI b2 cI 6 g2), (xI b3 cI 6 g3), (xI b4 cI 6 g4), (xI b5 cI 6 g5), (xo_3_iiiiiiiirrrrr (ad q) (V q 0) (V q 1) (V q 2) (V q 3) (V q 4) (V q 5) (V q 6) (V q 7) (bd q 0) (bd q 1) (bd q 2) (bd q 3) (bd q 4)), (xI (bd q 0) cI 6 (G q 0)), (xI (bd q 1) cI 6 (G q 1)), (xI (bd q 2) cI 6 (G q 2)), (xI (bd q 3) cI 6 (G q 3)), (xI (bd q 4) cI 6 (G q 4))] : va_W) ++ pl_1) s.heap := hP
  have hD := dto hP hD
  refine lv_aload_n hx hb dX0_keep_9 rfl (lv_at hl 1 rfl) ?_
  have hc_2 := cutX (wc := [(xo_3_iiiiiiiirrrrr (ad q) (V q 0) (V q 1) (V q 2) (V q 3) (V q 4) (V q 5) (V q 6) (V q 7) (bd q 0) (bd q 1) (bd q 2) (bd q 3) (bd q 4)), (xI (bd q 0) cI 6 (G q 0)), (xI (bd q 1) cI 6 (G q 1)), (xI (bd q 2) cI 6 (G q 2)), (xI (bd q 3) cI 6 (G q 3)), (xI (bd q 4) cI 6 (G q 4)), (xo_3_iiiiiiiirrrrr h v0 v1 v2 v3 (nI hh) v5 (nI ww) (nI kk) b1 b2 b3 b4 b5), (xI b1 cI 6 g1), (xI b2 cI 6 g2), (xI b3 cI 6 g3), (xI b4 cI 6 g4), (xI b5 cI 6 g5)]) hP hD hS hA [8, 9, 10, 11, 12, 13, 2, 3, 4, 5, 6, 7] (by decide +kernel) rfl
  refine va_callv (va_runV (As := [.ref h]) (rest := []) ⟨hx, hb, hml, hown, hts⟩ (r_X3_becomeLike l dC dI cI cZ cL cJ s.heap.size (ad q) (V q 0) (V q 1) (V q 2) (V q 3) (V q 4) (V q 5) (V q 6) (V q 7) (bd q 0) (bd q 1) (bd q 2) (bd q 3) (bd q 4) (G q 0) (G q 1) (G q 2) (G q 3) (G q 4) h v0 v1 v2 v3 (nI hh) v5 (nI ww) (nI kk) b1 b2 b3 b4 b5 g1 g2 g3 g4 g5 ) (cwV 1 hts gX0_keep_X3_becomeLike rfl rfl rfl (by decide +kernel) ⟨Nat.le_of_ble_eq_true rfl, Nat.le_of_ble_eq_true rfl⟩) (pvW 3 8 hK hP rfl rfl hc_2) rfl rfl hl.1 rfl (lv_room (Nat.le_of_ble_eq_true rfl)) dX0_keep_10 ⟨Nat.le_of_ble_eq_true rfl, Nat.le_of_ble_eq_true rfl⟩) hS (fun q _ h => hc_2.2.2 q h) hc_2.2.2 (fun u_2 t_2 H1 locs ht hvm h_2 hB hz1 hk1 hS => ?_)
  refine xl_5_7 hB (fun f1n_2 f2n_2 f3n_2 f4n_2 f5n_2 hP1 hD1 hF_2_0 hF_2_1 hF_2_2 hF_2_3 hF_2_4 => ?_)
  clear hB
  rw [ht] at hP1
  obtain ⟨hP, hD⟩ := va_joinQ (wr := [(xo_0_rii a0 be (nI q) (nI z)), (xJ be cL 24 fb)]) (w1 := [(xo_3_iiiiiiiirrrrr (ad q) v0 v1 v2 v3 (nI hh) v5 (nI ww) (nI kk) (bd q 0) (bd q 1) (bd q 2) (bd q 3) (bd q 4)), (xI (bd q 0) cI 6 f1n_2), (xI (bd q 1) cI 6 f2n_2), (xI (bd q 2) cI 6 f3n_2), (xI (bd q 3) cI 6 f4n_2), (xI (bd q 4) cI 6 f5n_2), (xo_3_iiiiiiiirrrrr h v0 v1 v2 v3 (nI hh) v5 (nI ww) (nI kk) b1 b2 b3 b4 b5), (xI b1 cI 6 g1), (xI b2 cI 6 g2), (xI b3 cI 6 g3), (xI b4 cI 6 g4), (xI b5 cI 6 g5)]) hP hD [8, 9, 10, 11, 12, 13, 2, 3, 4, 5, 6, 7] [0, 1] rfl rfl (by decide +kernel) (by decide +kernel) hk1 hc_2.2.2 hP1 hD1
  generalize H1 = H at hP hS ⊢
  have hP : va_P (dC, dI) vwCl (([(xo_0_rii a0 be (nI q) (nI z)), (xJ be cL 24 fb), (xo_3_iiiiiiiirrrrr (ad q) v0 v1 v2 v3 (nI hh) v5 (nI ww) (nI kk) (bd q 0) (bd q 1) (bd q 2) (bd q 3) (bd q 4)), (xI (bd q 0) cI 6 f1n_2), (xI (bd q 1) cI 6 f2n_2), (xI (bd q 2) cI 6 f3n_2), (xI (bd q 3) cI 6 f4n_2), (xI (bd q 4) cI 6 f5n_2), (xo_3_iiiiiiiirrrrr h v0 v1 v2 v3 (nI hh) v5 (nI ww) (nI kk) b1 b2 b3 b4 b5), (xI b1 cI 6 g1), (xI b2 cI 6 g2), (xI b3 cI 6 g3), (xI b4 cI 6 g4), (xI b5 cI 6 g5)] : va_W) ++ pl_1) H := hP
  have hD := dto hP hD
  have hP := hbP_1 [(xo_0_rii a0 be (nI q) (nI z)), (xJ be cL 24 fb), (xo_3_iiiiiiiirrrrr h v0 v1 v2 v3 (nI hh) v5 (nI ww) (nI kk) b1 b2 b3 b4 b5), (xI b1 cI 6 g1), (xI b2 cI 6 g2), (xI b3 cI 6 g3), (xI b4 cI 6 g4), (xI b5 cI 6 g5)] (v0) (v1) (v2) (v3) ((nI hh)) (v5) ((nI ww)) ((nI kk)) (f1n_2) (f2n_2) (f3n_2) (f4n_2) (f5n_2) _ (hP.part (cx := (([(xo_0_rii a0 be (nI q) (nI z)), (xJ be cL 24 fb), (xo_3_iiiiiiiirrrrr h v0 v1 v2 v3 (nI hh) v5 (nI ww) (nI kk) b1 b2 b3 b4 b5), (xI b1 cI 6 g1), (xI b2 cI 6 g2), (xI b3 cI 6 g3), (xI b4 cI 6 g4), (xI b5 cI 6 g5)] : va_W) ++ ([(xo_3_iiiiiiiirrrrr (ad q) v0 v1 v2 v3 (nI hh) v5 (nI ww) (nI kk) (bd q 0) (bd q 1) (bd q 2) (bd q 3) (bd q 4)), (xI (bd q 0) cI 6 f1n_2), (xI (bd q 1) cI 6 f2n_2), (xI (bd q 2) cI 6 f3n_2), (xI (bd q 3) cI 6 f4n_2), (xI (bd q 4) cI 6 f5n_2)] : va_W))) [0, 1, 8, 9, 10, 11, 12, 13, 2, 3, 4, 5, 6, 7] rfl)
  have hD := hbD_1 [(xo_0_rii a0 be (nI q) (nI z)), (xJ be cL 24 fb), (xo_3_iiiiiiiirrrrr h v0 v1 v2 v3 (nI hh) v5 (nI ww) (nI kk) b1 b2 b3 b4 b5), (xI b1 cI 6 g1), (xI b2 cI 6 g2), (xI b3 cI 6 g3), (xI b4 cI 6 g4), (xI b5 cI 6 g5)] (v0) (v1) (v2) (v3) ((nI hh)) (v5) ((nI ww)) ((nI kk)) (f1n_2) (f2n_2) (f3n_2) (f4n_2) (f5n_2) _ (hD.part (cx := (([(xo_0_rii a0 be (nI q) (nI z)), (xJ be cL 24 fb), (xo_3_iiiiiiiirrrrr h v0 v1 v2 v3 (nI hh) v5 (nI ww) (nI kk) b1 b2 b3 b4 b5), (xI b1 cI 6 g1), (xI b2 cI 6 g2), (xI b3 cI 6 g3), (xI b4 cI 6 g4), (xI b5 cI 6 g5)] : va_W) ++ ([(xo_3_iiiiiiiirrrrr (ad q) v0 v1 v2 v3 (nI hh) v5 (nI ww) (nI kk) (bd q 0) (bd q 1) (bd q 2) (bd q 3) (bd q 4)), (xI (bd q 0) cI 6 f1n_2), (xI (bd q 1) cI 6 f2n_2), (xI (bd q 2) cI 6 f3n_2), (xI (bd q 3) cI 6 f4n_2), (xI (bd q 4) cI 6 f5n_2)] : va_W))) [0, 1, 8, 9, 10, 11, 12, 13, 2, 3, 4, 5, 6, 7] (by decide +kernel) rfl)
  generalize hV_3 : va_up V q (fun k => [v0, v1, v2, v3, (nI hh), v5, (nI ww), (nI kk)].getD k 0) = V_3 at hP hD
  generalize hG_3 : va_up G q (fun k => [f1n_2, f2n_2, f3n_2, f4n_2, f5n_2].getD k (fun _ => 0)) = G_3 at hP hD
  have hP : va_P (dC, dI) vwCl (([(xo_0_rii a0 be (nI q) (nI z)), (xJ be cL 24 fb), (xo_3_iiiiiiiirrrrr h v0 v1 v2 v3 (nI hh) v5 (nI ww) (nI kk) b1 b2 b3 b4 b5), (xI b1 cI 6 g1), (xI b2 cI 6 g2), (xI b3 cI 6 g3), (xI b4 cI 6 g4), (xI b5 cI 6 g5)] : va_W) ++ lvs cI 24 ad bd V_3 G_3) H := hP
  have hD := dto hP hD
  refine lv_aload_n hx hb dX0_keep_13 rfl (lv_at hl 0 rfl) ?_
  refine lv_aload_n hx hb dX0_keep_14 rfl (lv_at hl 0 rfl) ?_
  refine va_get (D := (dC, dI)) (ci := 0) (v := .int (nI q)) (C := RX0) (T := TX0) (N := 3) hx hb hts i_X0_keep_X0 hown hK hP 0 rfl rfl 1 (by decide) (hts _ mx_X0_keep_2) (fun _ h9 => h9) rfl dX0_keep_15 ?_
  refine lv_iconst (v := 1) hx hb dX0_keep_18 (by decide) ?_
  refine lv_iadd hx hb dX0_keep_19 ?_
  refine lv_topi (fun v_4 e_4 => ?_)
  obtain rfl : v_4 = (nI (q + 1)) := (e_4).trans (nI_add q 1)
  refine lv_bipush (v := 24) hx hb dX0_keep_20 (by decide) ?_
  refine lv_irem hx hb dX0_keep_22 (by decide) ?_
  refine lv_topi (fun v_5 e_5 => ?_)
  obtain ⟨z_5, hz_5, hze_5, rfl⟩ : ∃ z : Nat, z < 24 ∧ z = (q + 1) % 24 ∧ v_5 = nI z := ⟨(q + 1) % 24, Nat.mod_lt _ (by omega), rfl, e_5.trans (pk_rem (a := (q + 1)) (d := 24) (by omega) (by omega) (by omega))⟩
  refine va_put (D := (dC, dI)) (ci := 0) (v := .int (nI z_5)) (ty := .int) (C := RX0) (T := TX0) (N := 3) hx hb hts i_X0_keep_X0 tyX0 tyX0_ok nmX0 hown hK hP hD hS 0 rfl rfl 1 (by decide) (hts _ mx_X0_keep_2) (fun _ h9 => h9) rfl (by decide +kernel) rfl rfl (Nat.le_of_ble_eq_true rfl) dX0_keep_23 (fun H locs hP hD hS => ?_)
  have hP : va_P (dC, dI) vwCl (([(xo_0_rii a0 be (nI z_5) (nI z)), (xJ be cL 24 fb), (xo_3_iiiiiiiirrrrr h v0 v1 v2 v3 (nI hh) v5 (nI ww) (nI kk) b1 b2 b3 b4 b5), (xI b1 cI 6 g1), (xI b2 cI 6 g2), (xI b3 cI 6 g3), (xI b4 cI 6 g4), (xI b5 cI 6 g5)] : va_W) ++ lvs cI 24 ad bd V_3 G_3) H := hP
  have hD := dto hP hD
  refine lv_aload_n hx hb dX0_keep_26 rfl (lv_at hl 0 rfl) ?_
  refine lv_aload_n hx hb dX0_keep_27 rfl (lv_at hl 0 rfl) ?_
  refine va_get (D := (dC, dI)) (ci := 0) (v := .int (nI z)) (C := RX0) (T := TX0) (N := 3) hx hb hts i_X0_keep_X0 hown hK hP 0 rfl rfl 2 (by decide) (hts _ mx_X0_keep_3) (fun _ h9 => h9) rfl dX0_keep_28 ?_
  refine lv_iconst (v := 1) hx hb dX0_keep_31 (by decide) ?_
  refine lv_iadd hx hb dX0_keep_32 ?_
  refine lv_topi (fun v_6 e_6 => ?_)
  obtain rfl : v_6 = (nI (z + 1)) := (e_6).trans (nI_add z 1)
  refine lv_bipush (v := 24) hx hb dX0_keep_33 (by decide) ?_
  refine va_mmin hx hb (by rw [hml]; exact hl.1.symm) hown (hts _ mx_X0_keep_4) (hts _ mx_X0_keep_5) (hts _ mx_X0_keep_6) (hts _ mx_X0_keep_7) (Nat.le_of_ble_eq_true rfl) (Nat.le_of_ble_eq_true rfl) (Nat.zero_le _) (Nat.zero_le _) dX0_keep_35 ?_
  refine lv_topi (fun v_7 e_7 => ?_)
  obtain ⟨z_7, hz_7, hz2_7, hze_7, e2_7⟩  := mmin_nat (a := (z + 1)) (b := 24) (by omega) (by omega)
  obtain rfl : v_7 = nI z_7 := e_7.trans e2_7
  refine va_put (D := (dC, dI)) (ci := 0) (v := .int (nI z_7)) (ty := .int) (C := RX0) (T := TX0) (N := 3) hx hb hts i_X0_keep_X0 tyX0 tyX0_ok nmX0 hown hK hP hD hS 0 rfl rfl 2 (by decide) (hts _ mx_X0_keep_3) (fun _ h9 => h9) rfl (by decide +kernel) rfl rfl (Nat.le_of_ble_eq_true rfl) dX0_keep_38 (fun H locs hP hD hS => ?_)
  have hP : va_P (dC, dI) vwCl (([(xo_0_rii a0 be (nI z_5) (nI z_7)), (xJ be cL 24 fb), (xo_3_iiiiiiiirrrrr h v0 v1 v2 v3 (nI hh) v5 (nI ww) (nI kk) b1 b2 b3 b4 b5), (xI b1 cI 6 g1), (xI b2 cI 6 g2), (xI b3 cI 6 g3), (xI b4 cI 6 g4), (xI b5 cI 6 g5)] : va_W) ++ lvs cI 24 ad bd V_3 G_3) H := hP
  have hD := dto hP hD
  have hX9 := cut2P (cx := [(xo_0_rii a0 be (nI z_5) (nI z_7)), (xJ be cL 24 fb), (xo_3_iiiiiiiirrrrr h v0 v1 v2 v3 (nI hh) v5 (nI ww) (nI kk) b1 b2 b3 b4 b5), (xI b1 cI 6 g1), (xI b2 cI 6 g2), (xI b3 cI 6 g3), (xI b4 cI 6 g4), (xI b5 cI 6 g5)]) hP hD [0, 1, 2, 3, 4, 5, 6, 7] (by decide +kernel) rfl
  exact W.vret hx hb hr (fun t ht hW => ⟨⟨(), rfl, trivial, ⟨V_3, G_3, z_5, z_7, va_Ht ht hX9.1, hX9.2, (by rw [← hV_3]; exact okL_up hok ⟨hh, ww, kk, rfl, hhb, rfl, hww, rfl, hkk⟩), (by omega), (by omega), (by rw [← hV_3, ← hG_3, va_up_self, va_up_self]; exact nrV_lev (by omega) hww hkk hF_2_0 hF_2_1 hF_2_2 hF_2_3 hF_2_4), (fun i hi hq_ => by rw [← hV_3, ← hG_3, va_up_ne _ _ hq_, va_up_ne _ _ hq_]), (by omega), (ntN_min (by assumption))⟩⟩, hS.F ht⟩) hS.2.2 dX0_keep_41
set_option maxHeartbeats 4000000 in
set_option maxRecDepth 100000 in
theorem r_X0_takeBack (l : Launch) (dC : Nat → ClassId) (dI : Nat → Nat → Nat) (cI cZ cL cJ : ClassId) (sz : Nat) (a0 : Nat) (be : Nat) (q : Nat) (z : Nat) (fb : Nat → Option Nat) (ad : Nat → Nat) (bd : Nat → Nat → Nat) (V : Nat → Nat → Int32) (G : Nat → Nat → Nat → Int32) (h : Nat) (v0 : Int32) (v1 : Int32) (v2 : Int32) (v3 : Int32) (v5 : Int32) (hh : Nat) (ww : Nat) (kk : Nat) (b1 : Nat) (b2 : Nat) (b3 : Nat) (b4 : Nat) (b5 : Nat) (g1 : Nat → Int32) (g2 : Nat → Int32) (g3 : Nat → Int32) (g4 : Nat → Int32) (g5 : Nat → Int32) (hfb : ∀ i : Nat, i < 24 → fb i = some (ad i)) (hok : ∀ i : Nat, i < 24 → okL (V i)) (hq : q < 24) (hz : z ≤ 24) (hhb : hh ≤ 999) (hww : ww ≤ 6) (hkk : kk ≤ 6) : Met l yX0_takeBack wsX0_takeBack ({ frames := 2, cells := 0, slots := 0, locals := 101 }) (va_Pc [.ref a0, .ref h] (fun U => U.heap.size = sz ∧ va_P (dC, dI) vwCl (([(xo_0_rii a0 be (nI q) (nI z)), (xJ be cL 24 fb), (xo_3_iiiiiiiirrrrr h v0 v1 v2 v3 (nI hh) v5 (nI ww) (nI kk) b1 b2 b3 b4 b5), (xI b1 cI 6 g1), (xI b2 cI 6 g2), (xI b3 cI 6 g3), (xI b4 cI 6 g4), (xI b5 cI 6 g5)] : va_W) ++ lvs cI 24 ad bd V G) U.heap ∧ va_K (dC, dI) vwCl [(cI, .int), (cZ, .boolean), (cL, .object RX3), (cJ, .array .int)] U ∧ va_D (fun _ => True) (([(xo_0_rii a0 be (nI q) (nI z)), (xJ be cL 24 fb), (xo_3_iiiiiiiirrrrr h v0 v1 v2 v3 (nI hh) v5 (nI ww) (nI kk) b1 b2 b3 b4 b5), (xI b1 cI 6 g1), (xI b2 cI 6 g2), (xI b3 cI 6 g3), (xI b4 cI 6 g4), (xI b5 cI 6 g5)] : va_W) ++ lvs cI 24 ad bd V G))) (va_Qv (fun (_ : Unit) => True) (fun (_ : Unit) t => ∃ (Vn : Nat → Nat → Int32) (Gn : Nat → Nat → Nat → Int32) (qn : Nat) (zn : Nat) (hn : Nat) (wn : Nat) (kn : Nat) (v0n : Int32) (v1n : Int32) (v2n : Int32) (v3n : Int32) (v5n : Int32) (g1n : Nat → Int32) (g2n : Nat → Int32) (g3n : Nat → Int32) (g4n : Nat → Int32) (g5n : Nat → Int32), va_P (dC, dI) vwCl (([(xo_0_rii a0 be (nI qn) (nI zn)), (xJ be cL 24 fb), (xo_3_iiiiiiiirrrrr h v0n v1n v2n v3n (nI hn) v5n (nI wn) (nI kn) b1 b2 b3 b4 b5), (xI b1 cI 6 g1n), (xI b2 cI 6 g2n), (xI b3 cI 6 g3n), (xI b4 cI 6 g4n), (xI b5 cI 6 g5n)] : va_W) ++ lvs cI 24 ad bd Vn Gn) t.heap ∧ va_D (va_A (([(xo_0_rii a0 be (nI q) (nI z)), (xJ be cL 24 fb), (xo_3_iiiiiiiirrrrr h v0 v1 v2 v3 (nI hh) v5 (nI ww) (nI kk) b1 b2 b3 b4 b5), (xI b1 cI 6 g1), (xI b2 cI 6 g2), (xI b3 cI 6 g3), (xI b4 cI 6 g4), (xI b5 cI 6 g5)] : va_W) ++ lvs cI 24 ad bd V G) sz) (([(xo_0_rii a0 be (nI qn) (nI zn)), (xJ be cL 24 fb), (xo_3_iiiiiiiirrrrr h v0n v1n v2n v3n (nI hn) v5n (nI wn) (nI kn) b1 b2 b3 b4 b5), (xI b1 cI 6 g1n), (xI b2 cI 6 g2n), (xI b3 cI 6 g3n), (xI b4 cI 6 g4n), (xI b5 cI 6 g5n)] : va_W) ++ lvs cI 24 ad bd Vn Gn) ∧ (∀ i : Nat, i < 24 → okL (Vn i)) ∧ qn < 24 ∧ zn ≤ 24 ∧ hn ≤ 999 ∧ wn ≤ 6 ∧ kn ≤ 6 ∧ (0 < z → qn = (q + 23) % 24 ∧ zn = z - 1 ∧ (nrm v0n v1n v2n v3n hn v5n wn kn g1n g2n g3n g4n g5n) = nrV (V qn) (G qn)) ∧ (z = 0 → zn = 0 ∧ qn = q ∧ (nrm v0n v1n v2n v3n hn v5n wn kn g1n g2n g3n g4n g5n) = (nrm v0 v1 v2 v3 hh v5 ww kk g1 g2 g3 g4 g5)) ∧ (∀ i : Nat, i < 24 → nrV (Vn i) (Gn i) = nrV (V i) (G i))) (va_A (([(xo_0_rii a0 be (nI q) (nI z)), (xJ be cL 24 fb), (xo_3_iiiiiiiirrrrr h v0 v1 v2 v3 (nI hh) v5 (nI ww) (nI kk) b1 b2 b3 b4 b5), (xI b1 cI 6 g1), (xI b2 cI 6 g2), (xI b3 cI 6 g3), (xI b4 cI 6 g4), (xI b5 cI 6 g5)] : va_W) ++ lvs cI 24 ad bd V G) sz)) 0 0 (va_A (([(xo_0_rii a0 be (nI q) (nI z)), (xJ be cL 24 fb), (xo_3_iiiiiiiirrrrr h v0 v1 v2 v3 (nI hh) v5 (nI ww) (nI kk) b1 b2 b3 b4 b5), (xI b1 cI 6 g1), (xI b2 cI 6 g2), (xI b3 cI 6 g3), (xI b4 cI 6 g4), (xI b5 cI 6 g5)] : va_W) ++ lvs cI 24 ad bd V G) sz) := by
  refine Met.ofW (cc := cX0_takeBack) (maxL := 2) (ret := none) (by decide) rfl ?_
  intro p e s m args below meth c s₁ B hml hv
  obtain ⟨rfl, hsz, hP, hK, hD0⟩ := hv
  have hx := B.exec
  have hb := B.bytes
  have hr := B.returns
  have hts := atoms_spec (ws := wsX0_takeBack) B.pre
  have hown : s.vm.findClass RX0 = some m.cls := findClass_of_methodNamed B.named
  have hlocks := B.notSynchronized
  subst hsz
  have hD := hD0.self (sz := s.heap.size)
  generalize hAe : va_A (([(xo_0_rii a0 be (nI q) (nI z)), (xJ be cL 24 fb), (xo_3_iiiiiiiirrrrr h v0 v1 v2 v3 (nI hh) v5 (nI ww) (nI kk) b1 b2 b3 b4 b5), (xI b1 cI 6 g1), (xI b2 cI 6 g2), (xI b3 cI 6 g3), (xI b4 cI 6 g4), (xI b5 cI 6 g5)] : va_W) ++ lvs cI 24 ad bd V G) s.heap.size = A at hD ⊢
  have hA : ∀ q : Nat, s.heap.size ≤ q → A q := fun q h => by rw [← hAe]; exact Or.inr h
  have hS : va_S A s.heap s.heap [] := va_S.rf
  have hP : va_P (dC, dI) vwCl (([(xo_0_rii a0 be (nI q) (nI z)), (xJ be cL 24 fb), (xo_3_iiiiiiiirrrrr h v0 v1 v2 v3 (nI hh) v5 (nI ww) (nI kk) b1 b2 b3 b4 b5), (xI b1 cI 6 g1), (xI b2 cI 6 g2), (xI b3 cI 6 g3), (xI b4 cI 6 g4), (xI b5 cI 6 g5)] : va_W) ++ lvs cI 24 ad bd V G) s.heap := hP
  have hl := lv_entry ([.ref a0, .ref h]) (n := 2) (Nat.le_of_ble_eq_true rfl)
  rw [lg_entry_eq]
  generalize (lg_sl ([.ref a0, .ref h]) ++ List.replicate (2 - (lg_sl ([.ref a0, .ref h])).length) Slot.unset).toArray = ls at hl ⊢
  have hl : lv_has ls 2 [(0, .ref a0), (1, .ref h)] := hl
  refine lv_aload_n hx hb dX0_takeBack_0 rfl (lv_at hl 0 rfl) ?_
  refine va_get (D := (dC, dI)) (ci := 0) (v := .int (nI z)) (C := RX0) (T := TX0) (N := 3) hx hb hts i_X0_takeBack_X0 hown hK hP 0 rfl rfl 2 (by decide) (hts _ mx_X0_takeBack_1) (fun _ h9 => h9) rfl dX0_takeBack_1 ?_
  refine lv_if_le (tgt := 46) hx hb dX0_takeBack_4 (by decide) (fun c_1 => ?_) (fun c_1 => ?_)
  · have c_1 : z ≤ 0 := (nI_leI (a := z) (b := 0) (by omega) (by omega)).mp c_1
    have hX9 := cut2P (cx := [(xo_0_rii a0 be (nI q) (nI z)), (xJ be cL 24 fb), (xo_3_iiiiiiiirrrrr h v0 v1 v2 v3 (nI hh) v5 (nI ww) (nI kk) b1 b2 b3 b4 b5), (xI b1 cI 6 g1), (xI b2 cI 6 g2), (xI b3 cI 6 g3), (xI b4 cI 6 g4), (xI b5 cI 6 g5)]) hP hD [0, 1, 2, 3, 4, 5, 6, 7] (by decide +kernel) rfl
    exact W.vret hx hb hr (fun t ht hW => ⟨⟨(), rfl, trivial, ⟨V, G, q, z, hh, ww, kk, v0, v1, v2, v3, v5, g1, g2, g3, g4, g5, va_Ht ht hX9.1, hX9.2, hok, (by omega), (by omega), (by omega), (by omega), (by omega), (fun h_ => by omega), (fun _ => ⟨by omega, rfl, rfl⟩), (fun i _ => rfl)⟩⟩, hS.F ht⟩) hS.2.2 dX0_takeBack_46
  · have c_1 : ¬ (z ≤ 0) := fun q_ => c_1 ((nI_leI (a := z) (b := 0) (by omega) (by omega)).mpr q_)
    refine lv_aload_n hx hb dX0_takeBack_7 rfl (lv_at hl 0 rfl) ?_
    refine lv_aload_n hx hb dX0_takeBack_8 rfl (lv_at hl 0 rfl) ?_
    refine va_get (D := (dC, dI)) (ci := 0) (v := .int (nI q)) (C := RX0) (T := TX0) (N := 3) hx hb hts i_X0_takeBack_X0 hown hK hP 0 rfl rfl 1 (by decide) (hts _ mx_X0_takeBack_2) (fun _ h9 => h9) rfl dX0_takeBack_9 ?_
    refine lv_bipush (v := 24) hx hb dX0_takeBack_12 (by decide) ?_
    refine lv_iadd hx hb dX0_takeBack_14 ?_
    refine lv_topi (fun v_2 e_2 => ?_)
    obtain rfl : v_2 = (nI (q + 24)) := (e_2).trans (nI_add q 24)
    refine lv_iconst (v := 1) hx hb dX0_takeBack_15 (by decide) ?_
    refine lv_isub hx hb dX0_takeBack_16 ?_
    refine lv_topi (fun v_3 e_3 => ?_)
    obtain rfl : v_3 = (nI ((q + 24) - 1)) := (e_3).trans (pk_sub (a := (q + 24)) (b := 1) (by omega))
    refine lv_bipush (v := 24) hx hb dX0_takeBack_17 (by decide) ?_
    refine lv_irem hx hb dX0_takeBack_19 (by decide) ?_
    refine lv_topi (fun v_4 e_4 => ?_)
    obtain ⟨z_4, hz_4, hze_4, rfl⟩ : ∃ z : Nat, z < 24 ∧ z = ((q + 24) - 1) % 24 ∧ v_4 = nI z := ⟨((q + 24) - 1) % 24, Nat.mod_lt _ (by omega), rfl, e_4.trans (pk_rem (a := ((q + 24) - 1)) (d := 24) (by omega) (by omega) (by omega))⟩
    refine va_put (D := (dC, dI)) (ci := 0) (v := .int (nI z_4)) (ty := .int) (C := RX0) (T := TX0) (N := 3) hx hb hts i_X0_takeBack_X0 tyX0 tyX0_ok nmX0 hown hK hP hD hS 0 rfl rfl 1 (by decide) (hts _ mx_X0_takeBack_2) (fun _ h9 => h9) rfl (by decide +kernel) rfl rfl (Nat.le_of_ble_eq_true rfl) dX0_takeBack_20 (fun H locs hP hD hS => ?_)
    have hP : va_P (dC, dI) vwCl (([(xo_0_rii a0 be (nI z_4) (nI z)), (xJ be cL 24 fb), (xo_3_iiiiiiiirrrrr h v0 v1 v2 v3 (nI hh) v5 (nI ww) (nI kk) b1 b2 b3 b4 b5), (xI b1 cI 6 g1), (xI b2 cI 6 g2), (xI b3 cI 6 g3), (xI b4 cI 6 g4), (xI b5 cI 6 g5)] : va_W) ++ lvs cI 24 ad bd V G) H := hP
    have hD := dto hP hD
    refine lv_aload_n hx hb dX0_takeBack_23 rfl (lv_at hl 1 rfl) ?_
    refine lv_aload_n hx hb dX0_takeBack_24 rfl (lv_at hl 0 rfl) ?_
    refine va_get (D := (dC, dI)) (ci := 0) (v := .ref be) (C := RX0) (T := TX0) (N := 3) hx hb hts i_X0_takeBack_X0 hown hK hP 0 rfl rfl 0 (by decide) (hts _ mx_X0_takeBack_3) (fun _ h9 => h9) rfl dX0_takeBack_25 ?_
    refine lv_aload_n hx hb dX0_takeBack_28 rfl (lv_at hl 0 rfl) ?_
    refine va_get (D := (dC, dI)) (ci := 0) (v := .int (nI z_4)) (C := RX0) (T := TX0) (N := 3) hx hb hts i_X0_takeBack_X0 hown hK hP 0 rfl rfl 1 (by decide) (hts _ mx_X0_takeBack_2) (fun _ h9 => h9) rfl dX0_takeBack_29 ?_
    refine va_aldq hx hb hK hP 1 2 rfl rfl (vp_in_nI (by omega) (by omega)) dX0_takeBack_32 ?_
    refine W.eq (g2 := F0 m 33 ls (.ref (ad z_4) :: [.ref h])) (by show F0 m 33 ls (va_rf (fb (nI z_4).toNatClampNeg) :: _) = _; rw [nI_clamp (by omega), hfb _ (by omega)]; rfl) ?_
    obtain ⟨pl_5, hP, hD, hbP_5, hbD_5⟩ := blk_opn hP hD (i := z_4) (by omega)
    have hP : va_P (dC, dI) vwCl (([(xo_0_rii a0 be (nI z_4) (nI z)), (xJ be cL 24 fb), (xo_3_iiiiiiiirrrrr h v0 v1 v2 v3 (nI hh) v5 (nI ww) (nI kk) b1 b2 b3 b4 b5), (xI b1 cI 6 g1), (xI b2 cI 6 g2), (xI b3 cI 6 g3), (xI b4 cI 6 g4), (xI b5 cI 6 g5), (xo_3_iiiiiiiirrrrr (ad z_4) (V z_4 0) (V z_4 1) (V z_4 2) (V z_4 3) (V z_4 4) (V z_4 5) (V z_4 6) (V z_4 7) (bd z_4 0) (bd z_4 1) (bd z_4 2) (bd z_4 3) (bd z_4 4)), (xI (bd z_4 0) cI 6 (G z_4 0)), (xI (bd z_4 1) cI 6 (G z_4 1)), (xI (bd z_4 2) cI 6 (G z_4 2)), (xI (bd z_4 3) cI 6 (G z_4 3)), (xI (bd z_4 4) cI 6 (G z_4 4))] : va_W) ++ pl_5) H := hP
    have hD := dto hP hD
    obtain ⟨h9, w9, k9, e4, hb4, e6, hb6, e7, hb7⟩ := hok z_4 (by omega)
    have en_ := nrV_out (v := V z_4) (g := G z_4) e4 (by omega) e6 (by omega) e7 (by omega)
    rw [e4, e6, e7] at hP hD
    have hc_7 := cutX (wc := [(xo_3_iiiiiiiirrrrr h v0 v1 v2 v3 (nI hh) v5 (nI ww) (nI kk) b1 b2 b3 b4 b5), (xI b1 cI 6 g1), (xI b2 cI 6 g2), (xI b3 cI 6 g3), (xI b4 cI 6 g4), (xI b5 cI 6 g5), (xo_3_iiiiiiiirrrrr (ad z_4) (V z_4 0) (V z_4 1) (V z_4 2) (V z_4 3) (nI h9) (V z_4 5) (nI w9) (nI k9) (bd z_4 0) (bd z_4 1) (bd z_4 2) (bd z_4 3) (bd z_4 4)), (xI (bd z_4 0) cI 6 (G z_4 0)), (xI (bd z_4 1) cI 6 (G z_4 1)), (xI (bd z_4 2) cI 6 (G z_4 2)), (xI (bd z_4 3) cI 6 (G z_4 3)), (xI (bd z_4 4) cI 6 (G z_4 4))]) hP hD hS hA [2, 3, 4, 5, 6, 7, 8, 9, 10, 11, 12, 13] (by decide +kernel) rfl
    refine va_callv (va_runV (As := [.ref (ad z_4)]) (rest := []) ⟨hx, hb, hml, hown, hts⟩ (r_X3_becomeLike l dC dI cI cZ cL cJ H.size h v0 v1 v2 v3 (nI hh) v5 (nI ww) (nI kk) b1 b2 b3 b4 b5 g1 g2 g3 g4 g5 (ad z_4) (V z_4 0) (V z_4 1) (V z_4 2) (V z_4 3) (nI h9) (V z_4 5) (nI w9) (nI k9) (bd z_4 0) (bd z_4 1) (bd z_4 2) (bd z_4 3) (bd z_4 4) (G z_4 0) (G z_4 1) (G z_4 2) (G z_4 3) (G z_4 4) ) (cwV 1 hts gX0_takeBack_X3_becomeLike rfl rfl rfl (by decide +kernel) ⟨Nat.le_of_ble_eq_true rfl, Nat.le_of_ble_eq_true rfl⟩) (pvW 3 2 hK hP rfl rfl hc_7) rfl rfl hl.1 rfl (lv_room (Nat.le_of_ble_eq_true rfl)) dX0_takeBack_33 ⟨Nat.le_of_ble_eq_true rfl, Nat.le_of_ble_eq_true rfl⟩) hS (fun q _ h => hc_7.2.2 q h) hc_7.2.2 (fun u_7 t_7 H1 locs ht hvm h_7 hB hz1 hk1 hS => ?_)
    refine xl_5_7 hB (fun f1n_7 f2n_7 f3n_7 f4n_7 f5n_7 hP1 hD1 hF_7_0 hF_7_1 hF_7_2 hF_7_3 hF_7_4 => ?_)
    clear hB
    rw [ht] at hP1
    obtain ⟨hP, hD⟩ := va_joinQ (wr := [(xo_0_rii a0 be (nI z_4) (nI z)), (xJ be cL 24 fb)]) (w1 := [(xo_3_iiiiiiiirrrrr h (V z_4 0) (V z_4 1) (V z_4 2) (V z_4 3) (nI h9) (V z_4 5) (nI w9) (nI k9) b1 b2 b3 b4 b5), (xI b1 cI 6 f1n_7), (xI b2 cI 6 f2n_7), (xI b3 cI 6 f3n_7), (xI b4 cI 6 f4n_7), (xI b5 cI 6 f5n_7), (xo_3_iiiiiiiirrrrr (ad z_4) (V z_4 0) (V z_4 1) (V z_4 2) (V z_4 3) (nI h9) (V z_4 5) (nI w9) (nI k9) (bd z_4 0) (bd z_4 1) (bd z_4 2) (bd z_4 3) (bd z_4 4)), (xI (bd z_4 0) cI 6 (G z_4 0)), (xI (bd z_4 1) cI 6 (G z_4 1)), (xI (bd z_4 2) cI 6 (G z_4 2)), (xI (bd z_4 3) cI 6 (G z_4 3)), (xI (bd z_4 4) cI 6 (G z_4 4))]) hP hD [2, 3, 4, 5, 6, 7, 8, 9, 10, 11, 12, 13] [0, 1] rfl rfl (by decide +kernel) (by decide +kernel) hk1 hc_7.2.2 hP1 hD1
    generalize H1 = H at hP hS ⊢
    have hP : va_P (dC, dI) vwCl (([(xo_0_rii a0 be (nI z_4) (nI z)), (xJ be cL 24 fb), (xo_3_iiiiiiiirrrrr h (V z_4 0) (V z_4 1) (V z_4 2) (V z_4 3) (nI h9) (V z_4 5) (nI w9) (nI k9) b1 b2 b3 b4 b5), (xI b1 cI 6 f1n_7), (xI b2 cI 6 f2n_7), (xI b3 cI 6 f3n_7), (xI b4 cI 6 f4n_7), (xI b5 cI 6 f5n_7), (xo_3_iiiiiiiirrrrr (ad z_4) (V z_4 0) (V z_4 1) (V z_4 2) (V z_4 3) (nI h9) (V z_4 5) (nI w9) (nI k9) (bd z_4 0) (bd z_4 1) (bd z_4 2) (bd z_4 3) (bd z_4 4)), (xI (bd z_4 0) cI 6 (G z_4 0)), (xI (bd z_4 1) cI 6 (G z_4 1)), (xI (bd z_4 2) cI 6 (G z_4 2)), (xI (bd z_4 3) cI 6 (G z_4 3)), (xI (bd z_4 4) cI 6 (G z_4 4))] : va_W) ++ pl_5) H := hP
    have hD := dto hP hD
    have hP := hbP_5 [(xo_0_rii a0 be (nI z_4) (nI z)), (xJ be cL 24 fb), (xo_3_iiiiiiiirrrrr h (V z_4 0) (V z_4 1) (V z_4 2) (V z_4 3) (nI h9) (V z_4 5) (nI w9) (nI k9) b1 b2 b3 b4 b5), (xI b1 cI 6 f1n_7), (xI b2 cI 6 f2n_7), (xI b3 cI 6 f3n_7), (xI b4 cI 6 f4n_7), (xI b5 cI 6 f5n_7)] ((V z_4 0)) ((V z_4 1)) ((V z_4 2)) ((V z_4 3)) ((nI h9)) ((V z_4 5)) ((nI w9)) ((nI k9)) ((G z_4 0)) ((G z_4 1)) ((G z_4 2)) ((G z_4 3)) ((G z_4 4)) _ (hP.part (cx := (([(xo_0_rii a0 be (nI z_4) (nI z)), (xJ be cL 24 fb), (xo_3_iiiiiiiirrrrr h (V z_4 0) (V z_4 1) (V z_4 2) (V z_4 3) (nI h9) (V z_4 5) (nI w9) (nI k9) b1 b2 b3 b4 b5), (xI b1 cI 6 f1n_7), (xI b2 cI 6 f2n_7), (xI b3 cI 6 f3n_7), (xI b4 cI 6 f4n_7), (xI b5 cI 6 f5n_7)] : va_W) ++ ([(xo_3_iiiiiiiirrrrr (ad z_4) (V z_4 0) (V z_4 1) (V z_4 2) (V z_4 3) (nI h9) (V z_4 5) (nI w9) (nI k9) (bd z_4 0) (bd z_4 1) (bd z_4 2) (bd z_4 3) (bd z_4 4)), (xI (bd z_4 0) cI 6 (G z_4 0)), (xI (bd z_4 1) cI 6 (G z_4 1)), (xI (bd z_4 2) cI 6 (G z_4 2)), (xI (bd z_4 3) cI 6 (G z_4 3)), (xI (bd z_4 4) cI 6 (G z_4 4))] : va_W))) [0, 1, 2, 3, 4, 5, 6, 7, 8, 9, 10, 11, 12, 13] rfl)
    have hD := hbD_5 [(xo_0_rii a0 be (nI z_4) (nI z)), (xJ be cL 24 fb), (xo_3_iiiiiiiirrrrr h (V z_4 0) (V z_4 1) (V z_4 2) (V z_4 3) (nI h9) (V z_4 5) (nI w9) (nI k9) b1 b2 b3 b4 b5), (xI b1 cI 6 f1n_7), (xI b2 cI 6 f2n_7), (xI b3 cI 6 f3n_7), (xI b4 cI 6 f4n_7), (xI b5 cI 6 f5n_7)] ((V z_4 0)) ((V z_4 1)) ((V z_4 2)) ((V z_4 3)) ((nI h9)) ((V z_4 5)) ((nI w9)) ((nI k9)) ((G z_4 0)) ((G z_4 1)) ((G z_4 2)) ((G z_4 3)) ((G z_4 4)) _ (hD.part (cx := (([(xo_0_rii a0 be (nI z_4) (nI z)), (xJ be cL 24 fb), (xo_3_iiiiiiiirrrrr h (V z_4 0) (V z_4 1) (V z_4 2) (V z_4 3) (nI h9) (V z_4 5) (nI w9) (nI k9) b1 b2 b3 b4 b5), (xI b1 cI 6 f1n_7), (xI b2 cI 6 f2n_7), (xI b3 cI 6 f3n_7), (xI b4 cI 6 f4n_7), (xI b5 cI 6 f5n_7)] : va_W) ++ ([(xo_3_iiiiiiiirrrrr (ad z_4) (V z_4 0) (V z_4 1) (V z_4 2) (V z_4 3) (nI h9) (V z_4 5) (nI w9) (nI k9) (bd z_4 0) (bd z_4 1) (bd z_4 2) (bd z_4 3) (bd z_4 4)), (xI (bd z_4 0) cI 6 (G z_4 0)), (xI (bd z_4 1) cI 6 (G z_4 1)), (xI (bd z_4 2) cI 6 (G z_4 2)), (xI (bd z_4 3) cI 6 (G z_4 3)), (xI (bd z_4 4) cI 6 (G z_4 4))] : va_W))) [0, 1, 2, 3, 4, 5, 6, 7, 8, 9, 10, 11, 12, 13] (by decide +kernel) rfl)
    generalize hV_8 : va_up V z_4 (fun k => [(V z_4 0), (V z_4 1), (V z_4 2), (V z_4 3), (nI h9), (V z_4 5), (nI w9), (nI k9)].getD k 0) = V_8 at hP hD
    generalize hG_8 : va_up G z_4 (fun k => [(G z_4 0), (G z_4 1), (G z_4 2), (G z_4 3), (G z_4 4)].getD k (fun _ => 0)) = G_8 at hP hD
    have hP : va_P (dC, dI) vwCl (([(xo_0_rii a0 be (nI z_4) (nI z)), (xJ be cL 24 fb), (xo_3_iiiiiiiirrrrr h (V z_4 0) (V z_4 1) (V z_4 2) (V z_4 3) (nI h9) (V z_4 5) (nI w9) (nI k9) b1 b2 b3 b4 b5), (xI b1 cI 6 f1n_7), (xI b2 cI 6 f2n_7), (xI b3 cI 6 f3n_7), (xI b4 cI 6 f4n_7), (xI b5 cI 6 f5n_7)] : va_W) ++ lvs cI 24 ad bd V_8 G_8) H := hP
    have hD := dto hP hD
    refine lv_aload_n hx hb dX0_takeBack_36 rfl (lv_at hl 0 rfl) ?_
    refine lv_dup hx hb dX0_takeBack_37 rfl ?_
    refine va_get (D := (dC, dI)) (ci := 0) (v := .int (nI z)) (C := RX0) (T := TX0) (N := 3) hx hb hts i_X0_takeBack_X0 hown hK hP 0 rfl rfl 2 (by decide) (hts _ mx_X0_takeBack_1) (fun _ h9 => h9) rfl dX0_takeBack_38 ?_
    refine lv_iconst (v := 1) hx hb dX0_takeBack_41 (by decide) ?_
    refine lv_isub hx hb dX0_takeBack_42 ?_
    refine lv_topi (fun v_9 e_9 => ?_)
    obtain rfl : v_9 = (nI (z - 1)) := (e_9).trans (pk_sub (a := z) (b := 1) (by omega))
    refine va_put (D := (dC, dI)) (ci := 0) (v := .int (nI (z - 1))) (ty := .int) (C := RX0) (T := TX0) (N := 3) hx hb hts i_X0_takeBack_X0 tyX0 tyX0_ok nmX0 hown hK hP hD hS 0 rfl rfl 2 (by decide) (hts _ mx_X0_takeBack_1) (fun _ h9 => h9) rfl (by decide +kernel) rfl rfl (Nat.le_of_ble_eq_true rfl) dX0_takeBack_43 (fun H locs hP hD hS => ?_)
    have hP : va_P (dC, dI) vwCl (([(xo_0_rii a0 be (nI z_4) (nI (z - 1))), (xJ be cL 24 fb), (xo_3_iiiiiiiirrrrr h (V z_4 0) (V z_4 1) (V z_4 2) (V z_4 3) (nI h9) (V z_4 5) (nI w9) (nI k9) b1 b2 b3 b4 b5), (xI b1 cI 6 f1n_7), (xI b2 cI 6 f2n_7), (xI b3 cI 6 f3n_7), (xI b4 cI 6 f4n_7), (xI b5 cI 6 f5n_7)] : va_W) ++ lvs cI 24 ad bd V_8 G_8) H := hP
    have hD := dto hP hD
    have hX9 := cut2P (cx := [(xo_0_rii a0 be (nI z_4) (nI (z - 1))), (xJ be cL 24 fb), (xo_3_iiiiiiiirrrrr h (V z_4 0) (V z_4 1) (V z_4 2) (V z_4 3) (nI h9) (V z_4 5) (nI w9) (nI k9) b1 b2 b3 b4 b5), (xI b1 cI 6 f1n_7), (xI b2 cI 6 f2n_7), (xI b3 cI 6 f3n_7), (xI b4 cI 6 f4n_7), (xI b5 cI 6 f5n_7)]) hP hD [0, 1, 2, 3, 4, 5, 6, 7] (by decide +kernel) rfl
    exact W.vret hx hb hr (fun t ht hW => ⟨⟨(), rfl, trivial, ⟨V_8, G_8, z_4, (z - 1), h9, w9, k9, (V z_4 0), (V z_4 1), (V z_4 2), (V z_4 3), (V z_4 5), f1n_7, f2n_7, f3n_7, f4n_7, f5n_7, va_Ht ht hX9.1, hX9.2, (by rw [← hV_8]; exact okL_up hok ⟨h9, w9, k9, rfl, hb4, rfl, hb6, rfl, hb7⟩), (by omega), (by omega), (by omega), (by omega), (by omega), (fun _ => ⟨by omega, by omega, by rw [en_]; exact nr_eq hb6 hb7 hF_7_0 hF_7_1 hF_7_2 hF_7_3 hF_7_4⟩), (fun h_ => by omega), (fun i hi => by rw [← hV_8, ← hG_8]; exact nrV_same (i := i) e4 e6 e7)⟩⟩, hS.F ht⟩) hS.2.2 dX0_takeBack_46
set_option maxHeartbeats 4000000 in
set_option maxRecDepth 100000 in
theorem r_X0_forget (l : Launch) (dC : Nat → ClassId) (dI : Nat → Nat → Nat) (cI cZ cL cJ : ClassId) (sz : Nat) (a0 : Nat) (be : Nat) (q : Nat) (z : Nat)  : Met l yX0_forget wsX0_forget ({ frames := 0, cells := 0, slots := 0, locals := 0 }) (va_Pc [.ref a0] (fun U => U.heap.size = sz ∧ va_P (dC, dI) vwCl [(xo_0_rii a0 be (nI q) (nI z))] U.heap ∧ va_K (dC, dI) vwCl [(cI, .int), (cZ, .boolean), (cL, .object RX3), (cJ, .array .int)] U ∧ va_D (fun _ => True) [(xo_0_rii a0 be (nI q) (nI z))])) (va_Qv (fun (_ : Unit) => True) (fun (_ : Unit) t => va_P (dC, dI) vwCl [(xo_0_rii a0 be (nI q) (nI 0))] t.heap ∧ va_D (va_A [(xo_0_rii a0 be (nI q) (nI z))] sz) [(xo_0_rii a0 be (nI q) (nI 0))]) (va_A [(xo_0_rii a0 be (nI q) (nI z))] sz)) 0 0 (va_A [(xo_0_rii a0 be (nI q) (nI z))] sz) := by
  refine Met.ofW (cc := cX0_forget) (maxL := 1) (ret := none) (by decide) rfl ?_
  intro p e s m args below meth c s₁ B hml hv
  obtain ⟨rfl, hsz, hP, hK, hD0⟩ := hv
  have hx := B.exec
  have hb := B.bytes
  have hr := B.returns
  have hts := atoms_spec (ws := wsX0_forget) B.pre
  have hown : s.vm.findClass RX0 = some m.cls := findClass_of_methodNamed B.named
  have hlocks := B.notSynchronized
  subst hsz
  have hD := hD0.self (sz := s.heap.size)
  generalize hAe : va_A [(xo_0_rii a0 be (nI q) (nI z))] s.heap.size = A at hD ⊢
  have hA : ∀ q : Nat, s.heap.size ≤ q → A q := fun q h => by rw [← hAe]; exact Or.inr h
  have hS : va_S A s.heap s.heap [] := va_S.rf
  have hP : va_P (dC, dI) vwCl [(xo_0_rii a0 be (nI q) (nI z))] s.heap := hP
  have hl := lv_entry ([.ref a0]) (n := 1) (Nat.le_of_ble_eq_true rfl)
  rw [lg_entry_eq]
  generalize (lg_sl ([.ref a0]) ++ List.replicate (1 - (lg_sl ([.ref a0])).length) Slot.unset).toArray = ls at hl ⊢
  have hl : lv_has ls 1 [(0, .ref a0)] := hl
  refine lv_aload_n hx hb dX0_forget_0 rfl (lv_at hl 0 rfl) ?_
  refine lv_iconst (v := 0) hx hb dX0_forget_1 (by decide) ?_
  refine va_put (D := (dC, dI)) (ci := 0) (v := .int 0) (ty := .int) (C := RX0) (T := TX0) (N := 3) hx hb hts i_X0_forget_X0 tyX0 tyX0_ok nmX0 hown hK hP hD hS 0 rfl rfl 2 (by decide) (hts _ mx_X0_forget_1) (fun _ h9 => h9) rfl (by decide +kernel) rfl rfl (Nat.le_of_ble_eq_true rfl) dX0_forget_2 (fun H locs hP hD hS => ?_)
  have hP : va_P (dC, dI) vwCl [(xo_0_rii a0 be (nI q) 0)] H := hP
  have hD := dto hP hD
  have hX9 := cut2 (wc := [(xo_0_rii a0 be (nI q) 0)]) hP hD [0] (by decide +kernel) rfl
  exact W.vret hx hb hr (fun t ht hW => ⟨⟨(), rfl, trivial, ⟨va_Ht ht hX9.1, hX9.2⟩⟩, hS.F ht⟩) hS.2.2 dX0_forget_5
-- 14.rows_d
theorem fl2 {F g : Nat → Int32} {v : Int32} {i : Nat} (h : ∀ j : Nat, j < i → F j = v) (hi : i < 2 ^ 31) (e : upd F (nI i).toNatClampNeg v = g) : ∀ j : Nat, j < i + 1 → g j = v := by
  intro j hj
  rw [nI_clamp hi] at e
  rw [← e]
  unfold upd
  split
  · rfl
  · exact h j (by omega)
/-- so many places from x on in a row of L -/
noncomputable abbrev plc (L x y : Int32) : Prop := ¬ x < 0 ∧ ¬ y < 0 ∧ ¬ L - y < x
/-- a number as a lane keeps it -/
noncomputable def laneX (l v : Int32) : Int32 := if l = 0 then v.toInt8.toInt32 else if l = 1 then v.toInt16.toInt32 else v
noncomputable abbrev badr (a : Int32) : Prop := a < 0 ∨ 8 ≤ a
/-- the rows as both sides know them: lane (-1: none), length (none: 0) -/
noncomputable def abl (fl : Nat → Int32) : Nat → Int32 := fun j => if j < 8 then fl j else -1
noncomputable def abn (fl fe : Nat → Int32) : Nat → Int32 := fun j => if j < 8 ∧ ¬ fl j = -1 then fe j else 0
/-- so many rows are there -/
noncomputable def prR (R : Nat → Int32) : Nat → Int32
  | 0 => 0
  | i + 1 => prR R i + (if R i = -1 then 0 else 1)
theorem prR_c {h g : Nat → Int32} : ∀ n : Nat, (∀ i : Nat, i < n → (h i = -1 ↔ g i = -1)) → prR h n = prR g n
  | 0, _ => rfl
  | n + 1, e => by
    show prR h n + (if h n = -1 then 0 else 1) = prR g n + (if g n = -1 then 0 else 1)
    have h9 := e n (by omega)
    rw [prR_c n (fun i hi => e i (by omega))]
    by_cases q : h n = -1
    · rw [if_pos q, if_pos (h9.mp q)]
    · rw [if_neg q, if_neg (fun z => q (h9.mpr z))]
theorem prR_abl {fl : Nat → Int32} : prR (abl fl) 8 = prR fl 8 := prR_c 8 (fun i hi => by unfold abl; rw [if_pos hi])
noncomputable def mbl (fn fz : Nat → Int32) : Nat → Int32 := fun j => if j < 8 ∧ ¬ fz j = -1 then fn j else -1
noncomputable def mbn (fz : Nat → Int32) : Nat → Int32 := fun j => if j < 8 ∧ ¬ fz j = -1 then fz j else 0
noncomputable abbrev okr (a b n : Int32) : Prop := ¬ badr a ∧ ¬ (b < 0 ∨ 2 < b) ∧ n ≤ 40 ∧ 0 ≤ n
noncomputable def sr_l (R : Nat → Int32) (a b n : Int32) : Nat → Int32 := if okr a b n then upd R a.toNatClampNeg b else R
noncomputable def sr_n (R : Nat → Int32) (a b n : Int32) : Nat → Int32 := if okr a b n then upd R a.toNatClampNeg n else R
noncomputable def sd_l (R : Nat → Int32) (a : Int32) : Nat → Int32 := if badr a then R else upd R a.toNatClampNeg (-1)
noncomputable def sd_n (R : Nat → Int32) (a : Int32) : Nat → Int32 := if badr a then R else upd R a.toNatClampNeg 0
noncomputable def ar_set (Rl Rn : Nat → Int32) (a i v : Int32) : Int32 := if badr a then -1000001 else if Rl a.toNatClampNeg = -1 then -1000011 else if plc (Rn a.toNatClampNeg) i 1 then laneX (Rl a.toNatClampNeg) v else -1000012
noncomputable def ar_copy (Rl Rn : Nat → Int32) (a i b j n : Int32) : Int32 := if badr a ∨ badr b then -1000001 else if Rl a.toNatClampNeg = -1 ∨ Rl b.toNatClampNeg = -1 then -1000011 else if ¬ Rl a.toNatClampNeg = Rl b.toNatClampNeg then -1000015 else if plc (Rn a.toNatClampNeg) i n ∧ plc (Rn b.toNatClampNeg) j n then n else -1000012
noncomputable def ar_drop (Rl Rn : Nat → Int32) (a : Int32) : Int32 := if badr a then -1000001 else if Rl a.toNatClampNeg = -1 then -1000011 else Rn a.toNatClampNeg
theorem nI_nb {j : Nat} (h : j < 8) : ¬ badr (nI j) := by
  rintro (q | q)
  · exact nI_pos (by omega) q
  · exact nI_ge (a := j) (b := 8) h (by decide) q
noncomputable def apz (z : Nat) : Nat := if z < 120 then z + 1 else z
noncomputable def an_fd (z : Nat) (a : Int32) : Int32 := if a < 0 ∨ ¬ a ≤ 255 then -1000001 else if z = 120 then -1000003 else nI (z + 1)
noncomputable def sf_z (z : Nat) (a : Int32) : Nat := if a < 0 ∨ ¬ a ≤ 255 ∨ z = 120 then z else z + 1
theorem okr_ok {j n : Nat} {b : Int32} (hj : j < 8) (hb : ¬ (b < 0 ∨ 2 < b)) (hn : n ≤ 40) : okr (nI j) b (nI n) := ⟨nI_nb hj, hb, nI_le (b := 40) hn (by decide), nI_pos' (by omega)⟩
theorem sr_l_ok {R : Nat → Int32} {j n : Nat} {b : Int32} (hj : j < 8) (hb : ¬ (b < 0 ∨ 2 < b)) (hn : n ≤ 40) : sr_l R (nI j) b (nI n) = upd R j b := by
  unfold sr_l
  rw [if_pos (okr_ok hj hb hn), nI_clamp (by omega)]
theorem sr_n_ok {R : Nat → Int32} {j n : Nat} {b : Int32} (hj : j < 8) (hb : ¬ (b < 0 ∨ 2 < b)) (hn : n ≤ 40) : sr_n R (nI j) b (nI n) = upd R j (nI n) := by
  unfold sr_n
  rw [if_pos (okr_ok hj hb hn), nI_clamp (by omega)]
theorem abl_up {fl : Nat → Int32} {j : Nat} {b : Int32} (hj : j < 8) : abl (upd fl j b) = upd (abl fl) j b := by
  funext q
  unfold abl upd
  grind
theorem lane_n {b : Int32} (hb : ¬ (b < 0 ∨ 2 < b)) : ¬ b = -1 := fun q => hb (Or.inl (by rw [q]; decide))
theorem abn_up {fl fe : Nat → Int32} {j : Nat} {b n : Int32} (hj : j < 8) (hb : ¬ (b < 0 ∨ 2 < b)) : abn (upd fl j b) (upd fe j n) = upd (abn fl fe) j n := by
  have h1 := lane_n hb
  funext q
  unfold abn upd
  grind
theorem abl_at {fl : Nat → Int32} {j : Nat} (hj : j < 8) : abl fl (nI j).toNatClampNeg = fl j := by
  rw [nI_clamp (by omega)]
  unfold abl
  rw [if_pos hj]
theorem abn_at {fl fe : Nat → Int32} {j : Nat} (hj : j < 8) (h : ¬ fl j = -1) : abn fl fe (nI j).toNatClampNeg = fe j := by
  rw [nI_clamp (by omega)]
  unfold abn
  rw [if_pos ⟨hj, h⟩]
theorem ar_set_0 {Rl Rn : Nat → Int32} {a i v : Int32} (h : a < 0 ∨ 8 ≤ a) : ar_set Rl Rn a i v = -1000001 := if_pos h
theorem ar_set_1 {fl fe : Nat → Int32} {j : Nat} {i v : Int32} (hj : j < 8) (h : fl j = -1) : ar_set (abl fl) (abn fl fe) (nI j) i v = -1000010 - 1 := by
  unfold ar_set
  rw [if_neg (nI_nb hj), abl_at hj, if_pos h]
  decide
theorem ar_set_2 {fl fe : Nat → Int32} {j : Nat} {i v : Int32} (hj : j < 8) (h : ¬ fl j = -1) (h2 : ¬ plc (fe j) i 1) : ar_set (abl fl) (abn fl fe) (nI j) i v = -1000010 - 2 := by
  unfold ar_set
  rw [if_neg (nI_nb hj), abl_at hj, if_neg h, abn_at hj h, if_neg h2]
  decide
theorem ar_set_3 {fl fe : Nat → Int32} {j : Nat} {i v : Int32} (hj : j < 8) (h : ¬ fl j = -1) (h2 : plc (fe j) i 1) : ar_set (abl fl) (abn fl fe) (nI j) i v = laneX (fl j) v := by
  unfold ar_set
  rw [if_neg (nI_nb hj), abl_at hj, if_neg h, abn_at hj h, if_pos h2]
theorem ar_copy_0 {Rl Rn : Nat → Int32} {a i b j n : Int32} (h : badr a ∨ badr b) : ar_copy Rl Rn a i b j n = -1000001 := if_pos h
theorem ar_copy_1 {fl fe : Nat → Int32} {a b : Nat} {i j n : Int32} (ha : a < 8) (hb : b < 8) (h : fl a = -1 ∨ fl b = -1) : ar_copy (abl fl) (abn fl fe) (nI a) i (nI b) j n = -1000010 - 1 := by
  unfold ar_copy
  rw [if_neg (fun q => q.elim (nI_nb ha) (nI_nb hb)), abl_at ha, abl_at hb, if_pos h]
  decide
theorem ar_copy_2 {fl fe : Nat → Int32} {a b : Nat} {i j n : Int32} (ha : a < 8) (hb : b < 8) (h1 : ¬ fl a = -1) (h2 : ¬ fl b = -1) (h : ¬ fl a = fl b) : ar_copy (abl fl) (abn fl fe) (nI a) i (nI b) j n = -1000010 - 5 := by
  unfold ar_copy
  rw [if_neg (fun q => q.elim (nI_nb ha) (nI_nb hb)), abl_at ha, abl_at hb, if_neg (fun q => q.elim h1 h2), if_pos h]
  decide
theorem ar_copy_3 {fl fe : Nat → Int32} {a b : Nat} {i j n : Int32} (ha : a < 8) (hb : b < 8) (h1 : ¬ fl a = -1) (h2 : ¬ fl b = -1) (h : fl a = fl b) (h3 : ¬ plc (fe a) i n ∨ ¬ plc (fe b) j n) : ar_copy (abl fl) (abn fl fe) (nI a) i (nI b) j n = -1000010 - 2 := by
  unfold ar_copy
  rw [if_neg (fun q => q.elim (nI_nb ha) (nI_nb hb)), abl_at ha, abl_at hb, if_neg (fun q => q.elim h1 h2), if_neg (fun q => q h), abn_at ha h1, abn_at hb h2, if_neg (fun q => h3.elim (fun z => z q.1) (fun z => z q.2))]
  decide
theorem ar_copy_4 {fl fe : Nat → Int32} {a b : Nat} {i j n : Int32} (ha : a < 8) (hb : b < 8) (h1 : ¬ fl a = -1) (h2 : ¬ fl b = -1) (h : fl a = fl b) (h3 : plc (fe a) i n) (h4 : plc (fe b) j n) : ar_copy (abl fl) (abn fl fe) (nI a) i (nI b) j n = n := by
  unfold ar_copy
  rw [if_neg (fun q => q.elim (nI_nb ha) (nI_nb hb)), abl_at ha, abl_at hb, if_neg (fun q => q.elim h1 h2), if_neg (fun q => q h), abn_at ha h1, abn_at hb h2, if_pos ⟨h3, h4⟩]
theorem ar_drop_0 {Rl Rn : Nat → Int32} {a : Int32} (h : a < 0 ∨ 8 ≤ a) : ar_drop Rl Rn a = -1000001 := if_pos h
theorem ar_drop_1 {fl fe : Nat → Int32} {j : Nat} (hj : j < 8) (h : fl j = -1) : ar_drop (abl fl) (abn fl fe) (nI j) = -1000010 - 1 := by
  unfold ar_drop
  rw [if_neg (nI_nb hj), abl_at hj, if_pos h]
  decide
theorem ar_drop_2 {fl fe : Nat → Int32} {j : Nat} (hj : j < 8) (h : ¬ fl j = -1) : ar_drop (abl fl) (abn fl fe) (nI j) = fe j := by
  unfold ar_drop
  rw [if_neg (nI_nb hj), abl_at hj, if_neg h, abn_at hj h]
theorem sd_l_0 {R : Nat → Int32} {a : Int32} (h : a < 0 ∨ 8 ≤ a) : sd_l R a = R := if_pos h
theorem sd_n_0 {R : Nat → Int32} {a : Int32} (h : a < 0 ∨ 8 ≤ a) : sd_n R a = R := if_pos h
theorem sd_l_1 {fl : Nat → Int32} {j : Nat} (hj : j < 8) : abl (upd fl j (-1)) = sd_l (abl fl) (nI j) := by
  unfold sd_l
  rw [if_neg (nI_nb hj), nI_clamp (by omega)]
  exact abl_up hj
theorem sd_n_1 {fl fe : Nat → Int32} {j : Nat} (hj : j < 8) : abn (upd fl j (-1)) fe = sd_n (abn fl fe) (nI j) := by
  unfold sd_n
  rw [if_neg (nI_nb hj), nI_clamp (by omega)]
  funext q
  unfold abn upd
  grind
theorem sd_l_2 {fl : Nat → Int32} {j : Nat} (hj : j < 8) (h : fl j = -1) : abl fl = sd_l (abl fl) (nI j) := by
  unfold sd_l
  rw [if_neg (nI_nb hj), nI_clamp (by omega)]
  funext q
  unfold abl upd
  grind
theorem sd_n_2 {fl fe : Nat → Int32} {j : Nat} (hj : j < 8) (h : fl j = -1) : abn fl fe = sd_n (abn fl fe) (nI j) := by
  unfold sd_n
  rw [if_neg (nI_nb hj), nI_clamp (by omega)]
  funext q
  unfold abn upd
  grind
theorem plc_iff {q : Nat} {a n : Int32} (hq : q ≤ 40) : plc (nI q) a n ↔ 0 ≤ a.toInt ∧ 0 ≤ n.toInt ∧ a.toInt ≤ (q : Int) - n.toInt := by
  have e2 : (0 : Int32).toInt = 0 := rfl
  have hm := Int32.toInt_lt n
  unfold plc
  rw [Int32.lt_iff_toInt_lt, Int32.lt_iff_toInt_lt, Int32.lt_iff_toInt_lt, e2, Int32.toInt_sub, nI_toInt (by omega)]
  constructor
  · rintro ⟨h1, h2, h3⟩
    rw [Int.bmod_eq_of_le (by omega) (by omega)] at h3
    omega
  · rintro ⟨h1, h2, h3⟩
    refine ⟨by omega, by omega, ?_⟩
    rw [Int.bmod_eq_of_le (by omega) (by omega)]
    omega
theorem plc_i32 {q : Nat} {a v : Int32} (hq : q ≤ 40) (e : v = nI q - 1) : (¬ (a.toInt64 < 0 ∨ v.toInt64 < a.toInt64)) ↔ plc (nI q) a 1 := by
  have e1 : (1 : Int32).toInt = 1 := rfl
  have e2 : (0 : Int64).toInt = 0 := rfl
  have e3 : (nI q - 1).toInt = (q : Int) - 1 := pk_sub_toInt (a := q) (b := 1) (by omega) (by decide)
  rw [plc_iff hq, Int64.lt_iff_toInt_lt, Int64.lt_iff_toInt_lt, Int32.toInt_toInt64, Int32.toInt_toInt64, e, e1, e2, e3]
  omega
theorem plc_i64 {q : Nat} {a n : Int32} {v : Int64} (hq : q ≤ 40) (hn : ¬ n < 0) (e : v = (nI q).toInt64 - n.toInt64) : (¬ (a.toInt64 < 0 ∨ v < a.toInt64)) ↔ plc (nI q) a n := by
  have e0 : (0 : Int32).toInt = 0 := rfl
  have e2 : (0 : Int64).toInt = 0 := rfl
  have hm := Int32.toInt_lt n
  rw [Int32.lt_iff_toInt_lt, e0] at hn
  rw [plc_iff hq, Int64.lt_iff_toInt_lt, Int64.lt_iff_toInt_lt, Int32.toInt_toInt64, e, Int64.toInt_sub, Int32.toInt_toInt64, Int32.toInt_toInt64, e2, nI_toInt (by omega), Int.bmod_eq_of_le (by omega) (by omega)]
  omega
noncomputable def laneM (l v : Int32) : Int32 := if l = 0 then v <<< (24 &&& 31) >>> (24 &&& 31) else if l = 1 then v <<< (16 &&& 31) >>> (16 &&& 31) else v
theorem sh_8 (v : Int32) : v <<< (24 &&& 31) >>> (24 &&& 31) = v.toInt8.toInt32 := by
  apply Int32.toBitVec_inj.mp
  rw [show (24 &&& 31 : Int32) = 24 from rfl]
  apply BitVec.eq_of_getLsbD_eq
  intro i hi
  simp [Int32.toBitVec_shiftRight, Int32.toBitVec_shiftLeft, BitVec.getLsbD_sshiftRight, BitVec.getLsbD_signExtend, BitVec.msb_eq_getLsbD_last]
  grind
theorem sh_16 (v : Int32) : v <<< (16 &&& 31) >>> (16 &&& 31) = v.toInt16.toInt32 := by
  apply Int32.toBitVec_inj.mp
  rw [show (16 &&& 31 : Int32) = 16 from rfl]
  apply BitVec.eq_of_getLsbD_eq
  intro i hi
  simp [Int32.toBitVec_shiftRight, Int32.toBitVec_shiftLeft, BitVec.getLsbD_sshiftRight, BitVec.getLsbD_signExtend, BitVec.msb_eq_getLsbD_last]
  grind
theorem lane_eq (l v : Int32) : laneM l v = laneX l v := by
  unfold laneM laneX
  rw [sh_8, sh_16]
theorem bd_m {b : Int32} (h : ¬ (b.toInt64 < 0 ∨ 2 < b.toInt64)) : ¬ (b < 0 ∨ 2 < b) := fun q => h (lane64.mpr q)
theorem nI_m1 {n : Nat} (h : n ≤ 40) : ¬ nI n = -1 := fun q => nI_pos (n := n) (by omega) (by rw [q]; decide)
theorem mbl_up {fn fz : Nat → Int32} {j n : Nat} {b : Int32} (hj : j < 8) (hn : n ≤ 40) : mbl (upd fn j b) (upd fz j (nI n)) = upd (mbl fn fz) j b := by
  have h1 := nI_m1 hn
  funext q
  unfold mbl upd
  grind
theorem mbn_up {fz : Nat → Int32} {j n : Nat} (hj : j < 8) (hn : n ≤ 40) : mbn (upd fz j (nI n)) = upd (mbn fz) j (nI n) := by
  have h1 := nI_m1 hn
  funext q
  unfold mbn upd
  grind
theorem ln_up {fn fz : Nat → Int32} {i : Nat} {b n : Int32} (h : ∀ j : Nat, j < 8 → ¬ fz j = -1 → ¬ fn j = -1) (hb : ¬ (b < 0 ∨ 2 < b)) : ∀ j : Nat, j < 8 → ¬ upd fz i n j = -1 → ¬ upd fn i b j = -1 := by
  have h1 := lane_n hb
  intro j hj
  unfold upd
  grind
theorem ln_dn {fn fz : Nat → Int32} {i : Nat} (h : ∀ j : Nat, j < 8 → ¬ fz j = -1 → ¬ fn j = -1) : ∀ j : Nat, j < 8 → ¬ upd fz i (-1) j = -1 → ¬ fn j = -1 := by
  intro j hj
  unfold upd
  grind
theorem mbl_no {fn fz : Nat → Int32} {j : Nat} (hj : j < 8) (h : fz j = -1) : mbl fn fz (nI j).toNatClampNeg = -1 := by
  rw [nI_clamp (by omega)]
  unfold mbl
  grind
theorem mbl_at {fn fz : Nat → Int32} {j q : Nat} (hj : j < 8) (h : fz j = nI q) (hq : q ≤ 40) : mbl fn fz (nI j).toNatClampNeg = fn j := by
  have h1 := nI_m1 hq
  rw [nI_clamp (by omega)]
  unfold mbl
  grind
theorem mbn_at {fz : Nat → Int32} {j q : Nat} (hj : j < 8) (h : fz j = nI q) (hq : q ≤ 40) : mbn fz (nI j).toNatClampNeg = nI q := by
  have h1 := nI_m1 hq
  rw [nI_clamp (by omega)]
  unfold mbn
  grind
theorem mln {fn fz : Nat → Int32} {j q : Nat} (hL : ∀ j : Nat, j < 8 → ¬ fz j = -1 → ¬ fn j = -1) (hj : j < 8) (h : fz j = nI q) (hq : q ≤ 40) : ¬ fn j = -1 := hL j hj (by rw [h]; exact nI_m1 hq)
theorem am_set_1 {fn fz : Nat → Int32} {j : Nat} {i v : Int32} (hj : j < 8) (h : fz j = -1) : ar_set (mbl fn fz) (mbn fz) (nI j) i v = -1000010 - 1 := by
  unfold ar_set
  rw [if_neg (nI_nb hj), mbl_no hj h, if_pos rfl]
  decide
theorem am_set_2 {fn fz : Nat → Int32} {j q : Nat} {i v w : Int32} (hL : ∀ j : Nat, j < 8 → ¬ fz j = -1 → ¬ fn j = -1) (hj : j < 8) (h : fz j = nI q) (hq : q ≤ 40) (e : w = nI q - 1) (h2 : i.toInt64 < 0 ∨ w.toInt64 < i.toInt64) : ar_set (mbl fn fz) (mbn fz) (nI j) i v = -1000010 - 2 := by
  unfold ar_set
  rw [if_neg (nI_nb hj), mbl_at hj h hq, if_neg (mln hL hj h hq), mbn_at hj h hq, if_neg (fun q9 => (plc_i32 hq e).mpr q9 h2)]
  decide
theorem am_set_3 {fn fz g f : Nat → Int32} {j q k ix : Nat} {v w l r r2 r3 : Int32} (hL : ∀ j : Nat, j < 8 → ¬ fz j = -1 → ¬ fn j = -1) (hj : j < 8) (h : fz j = nI q) (hq : q ≤ 40) (e : w = nI q - 1) (h2 : ¬ ((nI k).toInt64 < 0 ∨ w.toInt64 < (nI k).toInt64)) (e1 : l = fn j) (e2 : r = laneM l v) (e3 : g = upd f ix r) (e4 : r2 = g ix) (e5 : r3 = r2) : r3 = ar_set (mbl fn fz) (mbn fz) (nI j) (nI k) v := by
  have h9 : r3 = laneX (fn j) v := by
    rw [e5, e4, e3]
    unfold upd
    rw [if_pos rfl, e2, lane_eq, e1]
  unfold ar_set
  rw [if_neg (nI_nb hj), mbl_at hj h hq, if_neg (mln hL hj h hq), mbn_at hj h hq, if_pos ((plc_i32 hq e).mp h2)]
  exact h9
theorem am_copy_1 {fn fz : Nat → Int32} {a b : Nat} {i j n : Int32} (ha : a < 8) (hb : b < 8) (h : fz a = -1 ∨ fz b = -1) : ar_copy (mbl fn fz) (mbn fz) (nI a) i (nI b) j n = -1000010 - 1 := by
  unfold ar_copy
  rw [if_neg (fun q => q.elim (nI_nb ha) (nI_nb hb)), if_pos (h.elim (fun z => Or.inl (mbl_no ha z)) (fun z => Or.inr (mbl_no hb z)))]
  decide
theorem am_copy_2 {fn fz : Nat → Int32} {a b p q : Nat} {i j n : Int32} (hL : ∀ j : Nat, j < 8 → ¬ fz j = -1 → ¬ fn j = -1) (ha : a < 8) (hb : b < 8) (h1 : fz a = nI p) (hp : p ≤ 40) (h2 : fz b = nI q) (hq : q ≤ 40) (h : ¬ fn a = fn b) : ar_copy (mbl fn fz) (mbn fz) (nI a) i (nI b) j n = -1000010 - 5 := by
  unfold ar_copy
  rw [if_neg (fun q => q.elim (nI_nb ha) (nI_nb hb)), mbl_at ha h1 hp, mbl_at hb h2 hq, if_neg (fun z => z.elim (mln hL ha h1 hp) (mln hL hb h2 hq)), if_pos h]
  decide
theorem am_copy_3 {fn fz : Nat → Int32} {a b p q : Nat} {i j n : Int32} (hL : ∀ j : Nat, j < 8 → ¬ fz j = -1 → ¬ fn j = -1) (ha : a < 8) (hb : b < 8) (h1 : fz a = nI p) (hp : p ≤ 40) (h2 : fz b = nI q) (hq : q ≤ 40) (h : fn a = fn b) (h3 : ¬ plc (nI p) i n ∨ ¬ plc (nI q) j n) : ar_copy (mbl fn fz) (mbn fz) (nI a) i (nI b) j n = -1000010 - 2 := by
  unfold ar_copy
  rw [if_neg (fun q => q.elim (nI_nb ha) (nI_nb hb)), mbl_at ha h1 hp, mbl_at hb h2 hq, if_neg (fun z => z.elim (mln hL ha h1 hp) (mln hL hb h2 hq)), if_neg (fun z => z h), mbn_at ha h1 hp, mbn_at hb h2 hq, if_neg (fun z => h3.elim (fun y => y z.1) (fun y => y z.2))]
  decide
theorem am_copy_4 {fn fz : Nat → Int32} {a b p q : Nat} {i j n : Int32} (hL : ∀ j : Nat, j < 8 → ¬ fz j = -1 → ¬ fn j = -1) (ha : a < 8) (hb : b < 8) (h1 : fz a = nI p) (hp : p ≤ 40) (h2 : fz b = nI q) (hq : q ≤ 40) (h : fn a = fn b) (h3 : plc (nI p) i n) (h4 : plc (nI q) j n) : ar_copy (mbl fn fz) (mbn fz) (nI a) i (nI b) j n = n := by
  unfold ar_copy
  rw [if_neg (fun q => q.elim (nI_nb ha) (nI_nb hb)), mbl_at ha h1 hp, mbl_at hb h2 hq, if_neg (fun z => z.elim (mln hL ha h1 hp) (mln hL hb h2 hq)), if_neg (fun z => z h), mbn_at ha h1 hp, mbn_at hb h2 hq, if_pos ⟨h3, h4⟩]
theorem am_drop_1 {fn fz : Nat → Int32} {j : Nat} (hj : j < 8) (h : fz j = -1) : ar_drop (mbl fn fz) (mbn fz) (nI j) = -1000010 - 1 := by
  unfold ar_drop
  rw [if_neg (nI_nb hj), mbl_no hj h, if_pos rfl]
  decide
theorem am_drop_2 {fn fz : Nat → Int32} {j q : Nat} (hL : ∀ j : Nat, j < 8 → ¬ fz j = -1 → ¬ fn j = -1) (hj : j < 8) (h : fz j = nI q) (hq : q ≤ 40) : ar_drop (mbl fn fz) (mbn fz) (nI j) = nI q := by
  unfold ar_drop
  rw [if_neg (nI_nb hj), mbl_at hj h hq, if_neg (mln hL hj h hq), mbn_at hj h hq]
theorem sm_l_1 {fn fz : Nat → Int32} {j : Nat} (hj : j < 8) : mbl fn (upd fz j (-1)) = sd_l (mbl fn fz) (nI j) := by
  unfold sd_l
  rw [if_neg (nI_nb hj), nI_clamp (by omega)]
  funext q
  unfold mbl upd
  grind
theorem sm_n_1 {fz : Nat → Int32} {j : Nat} (hj : j < 8) : mbn (upd fz j (-1)) = sd_n (mbn fz) (nI j) := by
  unfold sd_n
  rw [if_neg (nI_nb hj), nI_clamp (by omega)]
  funext q
  unfold mbn upd
  grind
theorem sm_l_2 {fn fz : Nat → Int32} {j : Nat} (hj : j < 8) (h : fz j = -1) : mbl fn fz = sd_l (mbl fn fz) (nI j) := by
  unfold sd_l
  rw [if_neg (nI_nb hj), nI_clamp (by omega)]
  funext q
  unfold mbl upd
  grind
theorem sm_n_2 {fz : Nat → Int32} {j : Nat} (hj : j < 8) (h : fz j = -1) : mbn fz = sd_n (mbn fz) (nI j) := by
  unfold sd_n
  rw [if_neg (nI_nb hj), nI_clamp (by omega)]
  funext q
  unfold mbn upd
  grind
theorem abl_0 {fl : Nat → Int32} (h : ∀ j : Nat, j < 8 → fl j = -1) : (fun _ => -1) = abl fl := by
  funext q
  unfold abl
  grind
theorem abn_0 {fl fe : Nat → Int32} (h : ∀ j : Nat, j < 8 → fl j = -1) : (fun _ => 0) = abn fl fe := by
  funext q
  unfold abn
  grind
theorem mbl_0 {fn fz : Nat → Int32} (h : ∀ j : Nat, j < 8 → fz j = -1) : (fun _ => -1) = mbl fn fz := by
  funext q
  unfold mbl
  grind
theorem mbn_0 {fz : Nat → Int32} (h : ∀ j : Nat, j < 8 → fz j = -1) : (fun _ => 0) = mbn fz := by
  funext q
  unfold mbn
  grind
/-! the items of the rows -/
noncomputable abbrev ITm := Nat → Nat → Int32
noncomputable def itX (a b c d e f g h : RF) : ITm := fun r i => if i < 40 then ([a, b, c, d, e, f, g, h].getD r (fun _ => 0)) i else 0
noncomputable def upI (I : ITm) (r : Nat) (G : RF) : ITm := fun q i => if q = r ∧ i < 40 then G i else I q i
noncomputable def cpI (F G : RF) (i j n : Nat) : RF := fun q => if j ≤ q ∧ q < j + n then F (i + (q - j)) else G q
theorem it_i {a b c d e f g h : RF} {r i : Nat} (hi : i < 40) : itX a b c d e f g h r i = [a, b, c, d, e, f, g, h].getD r (fun _ => 0) i := if_pos hi
theorem it_x {A B : ITm} {k : Nat} {G : RF} (h1 : ∀ i : Nat, i < 40 → A k i = G i) (h2 : ∀ q i : Nat, q ≠ k → A q i = B q i) (h3 : ∀ i : Nat, 40 ≤ i → A k i = B k i) : A = upI B k G := by
  funext q i
  unfold upI
  by_cases e : q = k
  · subst e
    by_cases l : i < 40
    · rw [if_pos ⟨rfl, l⟩]
      exact h1 i l
    · rw [if_neg (fun z => l z.2)]
      exact h3 i (by omega)
  · rw [if_neg (fun z => e z.1)]
    exact h2 q i e
theorem cp_one {F H f f2 : RF} {m n s i : Nat} (hi : i < 40) (hm : m + s ≤ 40) (hn : n + s ≤ 40) (e2 : ∀ i : Nat, i < 40 → F i = H i) (e3 : f i = f2 i) : va_cpy F f m n s i = cpI H f2 m n s i := by
  unfold cpI
  by_cases q : n ≤ i ∧ i < n + s
  · rw [if_pos q, pk_cpy_in q.1 q.2]
    exact e2 _ (by omega)
  · rw [if_neg q, pk_cpy_out (by omega)]
    exact e3
theorem it_s0 {a b c d e f g h x G : RF} (e1 : ∀ i : Nat, i < 40 → x i = G i) : itX x b c d e f g h = upI (itX a b c d e f g h) 0 G := by
  refine it_x (fun i hi => ?_) (fun q i hq => ?_) (fun i hi => ?_)
  · exact (it_i hi).trans (e1 i hi)
  · unfold itX
    match q, hq with
    | 0, hq => exact absurd rfl hq
    | 1, hq => rfl
    | 2, hq => rfl
    | 3, hq => rfl
    | 4, hq => rfl
    | 5, hq => rfl
    | 6, hq => rfl
    | 7, hq => rfl
    | n + 8, _ => rfl
  · exact (if_neg (by omega)).trans (if_neg (by omega)).symm
theorem it_u0 {a b c d e f g h x : RF} {k : Nat} {v y : Int32} (hk : k < 40) (e1 : x = upd a k v) (e2 : v = y) : itX x b c d e f g h = upI (itX a b c d e f g h) 0 (upd (itX a b c d e f g h 0) k y) :=
  it_s0 (fun i hi => by
    rw [e1, e2]
    unfold upd
    split
    · rfl
    · exact (if_pos hi).symm)
theorem it_m0 {a b c d e f g h x F H : RF} {m n s : Nat} (hm : m + s ≤ 40) (hn : n + s ≤ 40) (e1 : x = va_cpy F a (nI m).toNatClampNeg (nI n).toNatClampNeg (nI s).toNatClampNeg) (e2 : ∀ i : Nat, i < 40 → F i = H i) : itX x b c d e f g h = upI (itX a b c d e f g h) 0 (cpI H (itX a b c d e f g h 0) m n s) :=
  it_s0 (fun i hi => by
    rw [e1, nI_clamp (by omega), nI_clamp (by omega), nI_clamp (by omega)]
    exact cp_one hi hm hn e2 (if_pos hi).symm)
theorem it_s1 {a b c d e f g h x G : RF} (e1 : ∀ i : Nat, i < 40 → x i = G i) : itX a x c d e f g h = upI (itX a b c d e f g h) 1 G := by
  refine it_x (fun i hi => ?_) (fun q i hq => ?_) (fun i hi => ?_)
  · exact (it_i hi).trans (e1 i hi)
  · unfold itX
    match q, hq with
    | 0, hq => rfl
    | 1, hq => exact absurd rfl hq
    | 2, hq => rfl
    | 3, hq => rfl
    | 4, hq => rfl
    | 5, hq => rfl
    | 6, hq => rfl
    | 7, hq => rfl
    | n + 8, _ => rfl
  · exact (if_neg (by omega)).trans (if_neg (by omega)).symm
theorem it_u1 {a b c d e f g h x : RF} {k : Nat} {v y : Int32} (hk : k < 40) (e1 : x = upd b k v) (e2 : v = y) : itX a x c d e f g h = upI (itX a b c d e f g h) 1 (upd (itX a b c d e f g h 1) k y) :=
  it_s1 (fun i hi => by
    rw [e1, e2]
    unfold upd
    split
    · rfl
    · exact (if_pos hi).symm)
theorem it_m1 {a b c d e f g h x F H : RF} {m n s : Nat} (hm : m + s ≤ 40) (hn : n + s ≤ 40) (e1 : x = va_cpy F b (nI m).toNatClampNeg (nI n).toNatClampNeg (nI s).toNatClampNeg) (e2 : ∀ i : Nat, i < 40 → F i = H i) : itX a x c d e f g h = upI (itX a b c d e f g h) 1 (cpI H (itX a b c d e f g h 1) m n s) :=
  it_s1 (fun i hi => by
    rw [e1, nI_clamp (by omega), nI_clamp (by omega), nI_clamp (by omega)]
    exact cp_one hi hm hn e2 (if_pos hi).symm)
theorem it_s2 {a b c d e f g h x G : RF} (e1 : ∀ i : Nat, i < 40 → x i = G i) : itX a b x d e f g h = upI (itX a b c d e f g h) 2 G := by
  refine it_x (fun i hi => ?_) (fun q i hq => ?_) (fun i hi => ?_)
  · exact (it_i hi).trans (e1 i hi)
  · unfold itX
    match q, hq with
    | 0, hq => rfl
    | 1, hq => rfl
    | 2, hq => exact absurd rfl hq
    | 3, hq => rfl
    | 4, hq => rfl
    | 5, hq => rfl
    | 6, hq => rfl
    | 7, hq => rfl
    | n + 8, _ => rfl
  · exact (if_neg (by omega)).trans (if_neg (by omega)).symm
theorem it_u2 {a b c d e f g h x : RF} {k : Nat} {v y : Int32} (hk : k < 40) (e1 : x = upd c k v) (e2 : v = y) : itX a b x d e f g h = upI (itX a b c d e f g h) 2 (upd (itX a b c d e f g h 2) k y) :=
  it_s2 (fun i hi => by
    rw [e1, e2]
    unfold upd
    split
    · rfl
    · exact (if_pos hi).symm)
theorem it_m2 {a b c d e f g h x F H : RF} {m n s : Nat} (hm : m + s ≤ 40) (hn : n + s ≤ 40) (e1 : x = va_cpy F c (nI m).toNatClampNeg (nI n).toNatClampNeg (nI s).toNatClampNeg) (e2 : ∀ i : Nat, i < 40 → F i = H i) : itX a b x d e f g h = upI (itX a b c d e f g h) 2 (cpI H (itX a b c d e f g h 2) m n s) :=
  it_s2 (fun i hi => by
    rw [e1, nI_clamp (by omega), nI_clamp (by omega), nI_clamp (by omega)]
    exact cp_one hi hm hn e2 (if_pos hi).symm)
theorem it_s3 {a b c d e f g h x G : RF} (e1 : ∀ i : Nat, i < 40 → x i = G i) : itX a b c x e f g h = upI (itX a b c d e f g h) 3 G := by
  refine it_x (fun i hi => ?_) (fun q i hq => ?_) (fun i hi => ?_)
  · exact (it_i hi).trans (e1 i hi)
  · unfold itX
    match q, hq with
    | 0, hq => rfl
    | 1, hq => rfl
    | 2, hq => rfl
    | 3, hq => exact absurd rfl hq
    | 4, hq => rfl
    | 5, hq => rfl
    | 6, hq => rfl
    | 7, hq => rfl
    | n + 8, _ => rfl
  · exact (if_neg (by omega)).trans (if_neg (by omega)).symm
theorem it_u3 {a b c d e f g h x : RF} {k : Nat} {v y : Int32} (hk : k < 40) (e1 : x = upd d k v) (e2 : v = y) : itX a b c x e f g h = upI (itX a b c d e f g h) 3 (upd (itX a b c d e f g h 3) k y) :=
  it_s3 (fun i hi => by
    rw [e1, e2]
    unfold upd
    split
    · rfl
    · exact (if_pos hi).symm)
theorem it_m3 {a b c d e f g h x F H : RF} {m n s : Nat} (hm : m + s ≤ 40) (hn : n + s ≤ 40) (e1 : x = va_cpy F d (nI m).toNatClampNeg (nI n).toNatClampNeg (nI s).toNatClampNeg) (e2 : ∀ i : Nat, i < 40 → F i = H i) : itX a b c x e f g h = upI (itX a b c d e f g h) 3 (cpI H (itX a b c d e f g h 3) m n s) :=
  it_s3 (fun i hi => by
    rw [e1, nI_clamp (by omega), nI_clamp (by omega), nI_clamp (by omega)]
    exact cp_one hi hm hn e2 (if_pos hi).symm)
theorem it_s4 {a b c d e f g h x G : RF} (e1 : ∀ i : Nat, i < 40 → x i = G i) : itX a b c d x f g h = upI (itX a b c d e f g h) 4 G := by
  refine it_x (fun i hi => ?_) (fun q i hq => ?_) (fun i hi => ?_)
  · exact (it_i hi).trans (e1 i hi)
  · unfold itX
    match q, hq with
    | 0, hq => rfl
    | 1, hq => rfl
    | 2, hq => rfl
    | 3, hq => rfl
    | 4, hq => exact absurd rfl hq
    | 5, hq => rfl
    | 6, hq => rfl
    | 7, hq => rfl
    | n + 8, _ => rfl
  · exact (if_neg (by omega)).trans (if_neg (by omega)).symm
theorem it_u4 {a b c d e f g h x : RF} {k : Nat} {v y : Int32} (hk : k < 40) (e1 : x = upd e k v) (e2 : v = y) : itX a b c d x f g h = upI (itX a b c d e f g h) 4 (upd (itX a b c d e f g h 4) k y) :=
  it_s4 (fun i hi => by
    rw [e1, e2]
    unfold upd
    split
    · rfl
    · exact (if_pos hi).symm)
theorem it_m4 {a b c d e f g h x F H : RF} {m n s : Nat} (hm : m + s ≤ 40) (hn : n + s ≤ 40) (e1 : x = va_cpy F e (nI m).toNatClampNeg (nI n).toNatClampNeg (nI s).toNatClampNeg) (e2 : ∀ i : Nat, i < 40 → F i = H i) : itX a b c d x f g h = upI (itX a b c d e f g h) 4 (cpI H (itX a b c d e f g h 4) m n s) :=
  it_s4 (fun i hi => by
    rw [e1, nI_clamp (by omega), nI_clamp (by omega), nI_clamp (by omega)]
    exact cp_one hi hm hn e2 (if_pos hi).symm)
theorem it_s5 {a b c d e f g h x G : RF} (e1 : ∀ i : Nat, i < 40 → x i = G i) : itX a b c d e x g h = upI (itX a b c d e f g h) 5 G := by
  refine it_x (fun i hi => ?_) (fun q i hq => ?_) (fun i hi => ?_)
  · exact (it_i hi).trans (e1 i hi)
  · unfold itX
    match q, hq with
    | 0, hq => rfl
    | 1, hq => rfl
    | 2, hq => rfl
    | 3, hq => rfl
    | 4, hq => rfl
    | 5, hq => exact absurd rfl hq
    | 6, hq => rfl
    | 7, hq => rfl
    | n + 8, _ => rfl
  · exact (if_neg (by omega)).trans (if_neg (by omega)).symm
theorem it_u5 {a b c d e f g h x : RF} {k : Nat} {v y : Int32} (hk : k < 40) (e1 : x = upd f k v) (e2 : v = y) : itX a b c d e x g h = upI (itX a b c d e f g h) 5 (upd (itX a b c d e f g h 5) k y) :=
  it_s5 (fun i hi => by
    rw [e1, e2]
    unfold upd
    split
    · rfl
    · exact (if_pos hi).symm)
theorem it_m5 {a b c d e f g h x F H : RF} {m n s : Nat} (hm : m + s ≤ 40) (hn : n + s ≤ 40) (e1 : x = va_cpy F f (nI m).toNatClampNeg (nI n).toNatClampNeg (nI s).toNatClampNeg) (e2 : ∀ i : Nat, i < 40 → F i = H i) : itX a b c d e x g h = upI (itX a b c d e f g h) 5 (cpI H (itX a b c d e f g h 5) m n s) :=
  it_s5 (fun i hi => by
    rw [e1, nI_clamp (by omega), nI_clamp (by omega), nI_clamp (by omega)]
    exact cp_one hi hm hn e2 (if_pos hi).symm)
theorem it_s6 {a b c d e f g h x G : RF} (e1 : ∀ i : Nat, i < 40 → x i = G i) : itX a b c d e f x h = upI (itX a b c d e f g h) 6 G := by
  refine it_x (fun i hi => ?_) (fun q i hq => ?_) (fun i hi => ?_)
  · exact (it_i hi).trans (e1 i hi)
  · unfold itX
    match q, hq with
    | 0, hq => rfl
    | 1, hq => rfl
    | 2, hq => rfl
    | 3, hq => rfl
    | 4, hq => rfl
    | 5, hq => rfl
    | 6, hq => exact absurd rfl hq
    | 7, hq => rfl
    | n + 8, _ => rfl
  · exact (if_neg (by omega)).trans (if_neg (by omega)).symm
theorem it_u6 {a b c d e f g h x : RF} {k : Nat} {v y : Int32} (hk : k < 40) (e1 : x = upd g k v) (e2 : v = y) : itX a b c d e f x h = upI (itX a b c d e f g h) 6 (upd (itX a b c d e f g h 6) k y) :=
  it_s6 (fun i hi => by
    rw [e1, e2]
    unfold upd
    split
    · rfl
    · exact (if_pos hi).symm)
theorem it_m6 {a b c d e f g h x F H : RF} {m n s : Nat} (hm : m + s ≤ 40) (hn : n + s ≤ 40) (e1 : x = va_cpy F g (nI m).toNatClampNeg (nI n).toNatClampNeg (nI s).toNatClampNeg) (e2 : ∀ i : Nat, i < 40 → F i = H i) : itX a b c d e f x h = upI (itX a b c d e f g h) 6 (cpI H (itX a b c d e f g h 6) m n s) :=
  it_s6 (fun i hi => by
    rw [e1, nI_clamp (by omega), nI_clamp (by omega), nI_clamp (by omega)]
    exact cp_one hi hm hn e2 (if_pos hi).symm)
theorem it_s7 {a b c d e f g h x G : RF} (e1 : ∀ i : Nat, i < 40 → x i = G i) : itX a b c d e f g x = upI (itX a b c d e f g h) 7 G := by
  refine it_x (fun i hi => ?_) (fun q i hq => ?_) (fun i hi => ?_)
  · exact (it_i hi).trans (e1 i hi)
  · unfold itX
    match q, hq with
    | 0, hq => rfl
    | 1, hq => rfl
    | 2, hq => rfl
    | 3, hq => rfl
    | 4, hq => rfl
    | 5, hq => rfl
    | 6, hq => rfl
    | 7, hq => exact absurd rfl hq
    | n + 8, _ => rfl
  · exact (if_neg (by omega)).trans (if_neg (by omega)).symm
theorem it_u7 {a b c d e f g h x : RF} {k : Nat} {v y : Int32} (hk : k < 40) (e1 : x = upd h k v) (e2 : v = y) : itX a b c d e f g x = upI (itX a b c d e f g h) 7 (upd (itX a b c d e f g h 7) k y) :=
  it_s7 (fun i hi => by
    rw [e1, e2]
    unfold upd
    split
    · rfl
    · exact (if_pos hi).symm)
theorem it_m7 {a b c d e f g h x F H : RF} {m n s : Nat} (hm : m + s ≤ 40) (hn : n + s ≤ 40) (e1 : x = va_cpy F h (nI m).toNatClampNeg (nI n).toNatClampNeg (nI s).toNatClampNeg) (e2 : ∀ i : Nat, i < 40 → F i = H i) : itX a b c d e f g x = upI (itX a b c d e f g h) 7 (cpI H (itX a b c d e f g h 7) m n s) :=
  it_s7 (fun i hi => by
    rw [e1, nI_clamp (by omega), nI_clamp (by omega), nI_clamp (by omega)]
    exact cp_one hi hm hn e2 (if_pos hi).symm)
/-! the items behind a call; findings -/
noncomputable def n_itr (I : ITm) (a b n : Int32) : ITm := if okr a b n then upI I a.toNatClampNeg (fun _ => 0) else I
noncomputable abbrev gd_set (Rl Rn : RF) (a i : Int32) : Prop := ¬ badr a ∧ ¬ Rl a.toNatClampNeg = -1 ∧ plc (Rn a.toNatClampNeg) i 1
noncomputable def n_its (Rl Rn : RF) (I : ITm) (a i v : Int32) : ITm := if gd_set Rl Rn a i then upI I a.toNatClampNeg (upd (I a.toNatClampNeg) i.toNatClampNeg (laneX (Rl a.toNatClampNeg) v)) else I
noncomputable abbrev gd_cpy (Rl Rn : RF) (a i b j n : Int32) : Prop := ¬ (badr a ∨ badr b) ∧ ¬ (Rl a.toNatClampNeg = -1 ∨ Rl b.toNatClampNeg = -1) ∧ Rl a.toNatClampNeg = Rl b.toNatClampNeg ∧ plc (Rn a.toNatClampNeg) i n ∧ plc (Rn b.toNatClampNeg) j n
noncomputable def n_itc (Rl Rn : RF) (I : ITm) (a i b j n : Int32) : ITm := if gd_cpy Rl Rn a i b j n then upI I b.toNatClampNeg (cpI (I a.toNatClampNeg) (I b.toNatClampNeg) i.toNatClampNeg j.toNatClampNeg n.toNatClampNeg) else I
noncomputable def f_set (Rl Rn : RF) (a i sg : Int32) : Int32 := if badr a then sg else if Rl a.toNatClampNeg = -1 then 1 else if plc (Rn a.toNatClampNeg) i 1 then 0 else 2
noncomputable def f_copy (Rl Rn : RF) (a i b j n sg : Int32) : Int32 := if badr a ∨ badr b then sg else if Rl a.toNatClampNeg = -1 ∨ Rl b.toNatClampNeg = -1 then 1 else if ¬ Rl a.toNatClampNeg = Rl b.toNatClampNeg then 5 else if plc (Rn a.toNatClampNeg) i n ∧ plc (Rn b.toNatClampNeg) j n then 0 else 2
noncomputable def f_drop (Rl : RF) (a sg : Int32) : Int32 := if badr a then sg else if Rl a.toNatClampNeg = -1 then 1 else 0
theorem itr_n {I : ITm} {a b n : Int32} (h : ¬ okr a b n) : n_itr I a b n = I := if_neg h
theorem itr_y {I : ITm} {j n : Nat} {b : Int32} (hj : j < 8) (hb : ¬ (b < 0 ∨ 2 < b)) (hn : n ≤ 40) : n_itr I (nI j) b (nI n) = upI I j (fun _ => 0) := by
  unfold n_itr
  rw [if_pos (okr_ok hj hb hn), nI_clamp (by omega)]
section FS
variable {Rl Rn : RF} {I : ITm} {a i b j n v sg : Int32} {p q : Nat}
theorem its_0 (h : badr a) : n_its Rl Rn I a i v = I := if_neg (fun z => z.1 h)
theorem its_1 (hp : p < 8) (h : Rl p = -1) : n_its Rl Rn I (nI p) i v = I := if_neg (fun z => z.2.1 (by rw [nI_clamp (by omega)]; exact h))
theorem its_2 (hp : p < 8) (h : ¬ plc (Rn p) i 1) : n_its Rl Rn I (nI p) i v = I := if_neg (fun z => h (by have y := z.2.2; rw [nI_clamp (by omega)] at y; exact y))
theorem its_3 {k : Nat} (hp : p < 8) (h : ¬ Rl p = -1) (h2 : plc (Rn p) (nI k) 1) (hk : k < 100) : n_its Rl Rn I (nI p) (nI k) v = upI I p (upd (I p) k (laneX (Rl p) v)) := by
  have e1 : (nI p).toNatClampNeg = p := nI_clamp (by omega)
  have e2 : (nI k).toNatClampNeg = k := nI_clamp (by omega)
  have g : gd_set Rl Rn (nI p) (nI k) := ⟨nI_nb hp, by rw [e1]; exact h, by rw [e1]; exact h2⟩
  unfold n_its
  rw [if_pos g, e1, e2]
theorem fs_0 (h : badr a) : f_set Rl Rn a i sg = sg := if_pos h
theorem fs_1 (hp : p < 8) (h : Rl p = -1) : f_set Rl Rn (nI p) i sg = 1 := by
  have e1 : (nI p).toNatClampNeg = p := nI_clamp (by omega)
  unfold f_set
  rw [if_neg (nI_nb hp), e1, if_pos h]
theorem fs_2 (hp : p < 8) (h : ¬ Rl p = -1) (h2 : ¬ plc (Rn p) i 1) : f_set Rl Rn (nI p) i sg = 2 := by
  have e1 : (nI p).toNatClampNeg = p := nI_clamp (by omega)
  unfold f_set
  rw [if_neg (nI_nb hp), e1, if_neg h, if_neg h2]
theorem fs_3 (hp : p < 8) (h : ¬ Rl p = -1) (h2 : plc (Rn p) i 1) : f_set Rl Rn (nI p) i sg = 0 := by
  have e1 : (nI p).toNatClampNeg = p := nI_clamp (by omega)
  unfold f_set
  rw [if_neg (nI_nb hp), e1, if_neg h, if_pos h2]
theorem itc_0 (h : badr a ∨ badr b) : n_itc Rl Rn I a i b j n = I := if_neg (fun z => z.1 h)
theorem itc_n (hp : p < 8) (hq : q < 8) (h : (Rl p = -1 ∨ Rl q = -1) ∨ ¬ Rl p = Rl q ∨ ¬ plc (Rn p) i n ∨ ¬ plc (Rn q) j n) : n_itc Rl Rn I (nI p) i (nI q) j n = I := by
  have e1 : (nI p).toNatClampNeg = p := nI_clamp (by omega)
  have e2 : (nI q).toNatClampNeg = q := nI_clamp (by omega)
  refine if_neg (fun z => ?_)
  obtain ⟨-, z2, z3, z4, z5⟩ := z
  rw [e1, e2] at z2 z3
  rw [e1] at z4
  rw [e2] at z5
  rcases h with h | h | h | h
  · exact z2 h
  · exact h z3
  · exact h z4
  · exact h z5
theorem itc_y {x y m : Nat} (hp : p < 8) (hq : q < 8) (h1 : ¬ Rl p = -1) (h2 : ¬ Rl q = -1) (h3 : Rl p = Rl q) (h4 : plc (Rn p) (nI x) (nI m)) (h5 : plc (Rn q) (nI y) (nI m)) (hx : x < 100) (hy : y < 100) (hm : m < 100) : n_itc Rl Rn I (nI p) (nI x) (nI q) (nI y) (nI m) = upI I q (cpI (I p) (I q) x y m) := by
  have e1 : (nI p).toNatClampNeg = p := nI_clamp (by omega)
  have e2 : (nI q).toNatClampNeg = q := nI_clamp (by omega)
  have e3 : (nI x).toNatClampNeg = x := nI_clamp (by omega)
  have e4 : (nI y).toNatClampNeg = y := nI_clamp (by omega)
  have e5 : (nI m).toNatClampNeg = m := nI_clamp (by omega)
  have g : gd_cpy Rl Rn (nI p) (nI x) (nI q) (nI y) (nI m) := ⟨fun z => z.elim (nI_nb hp) (nI_nb hq), by rw [e1, e2]; exact fun z => z.elim h1 h2, by rw [e1, e2]; exact h3, by rw [e1]; exact h4, by rw [e2]; exact h5⟩
  unfold n_itc
  rw [if_pos g, e1, e2, e3, e4, e5]
theorem fc_0 (h : badr a ∨ badr b) : f_copy Rl Rn a i b j n sg = sg := if_pos h
theorem fc_u (hp : p < 8) (hq : q < 8) : f_copy Rl Rn (nI p) i (nI q) j n sg = if Rl p = -1 ∨ Rl q = -1 then 1 else if ¬ Rl p = Rl q then 5 else if plc (Rn p) i n ∧ plc (Rn q) j n then 0 else 2 := by
  have e1 : (nI p).toNatClampNeg = p := nI_clamp (by omega)
  have e2 : (nI q).toNatClampNeg = q := nI_clamp (by omega)
  unfold f_copy
  rw [if_neg (fun z => z.elim (nI_nb hp) (nI_nb hq)), e1, e2]
theorem fc_1 (hp : p < 8) (hq : q < 8) (h : Rl p = -1 ∨ Rl q = -1) : f_copy Rl Rn (nI p) i (nI q) j n sg = 1 := by
  rw [fc_u hp hq, if_pos h]
theorem fc_2 (hp : p < 8) (hq : q < 8) (h1 : ¬ Rl p = -1) (h2 : ¬ Rl q = -1) (h : ¬ Rl p = Rl q) : f_copy Rl Rn (nI p) i (nI q) j n sg = 5 := by
  rw [fc_u hp hq, if_neg (fun z => z.elim h1 h2), if_pos h]
theorem fc_3 (hp : p < 8) (hq : q < 8) (h1 : ¬ Rl p = -1) (h2 : ¬ Rl q = -1) (h : Rl p = Rl q) (h3 : ¬ plc (Rn p) i n ∨ ¬ plc (Rn q) j n) : f_copy Rl Rn (nI p) i (nI q) j n sg = 2 := by
  rw [fc_u hp hq, if_neg (fun z => z.elim h1 h2), if_neg (fun z => z h), if_neg (fun z => h3.elim (fun y => y z.1) (fun y => y z.2))]
theorem fc_4 (hp : p < 8) (hq : q < 8) (h1 : ¬ Rl p = -1) (h2 : ¬ Rl q = -1) (h : Rl p = Rl q) (h3 : plc (Rn p) i n) (h4 : plc (Rn q) j n) : f_copy Rl Rn (nI p) i (nI q) j n sg = 0 := by
  rw [fc_u hp hq, if_neg (fun z => z.elim h1 h2), if_neg (fun z => z h), if_pos ⟨h3, h4⟩]
theorem fd_0 (h : badr a) : f_drop Rl a sg = sg := if_pos h
theorem fd_1 (hp : p < 8) (h : Rl p = -1) : f_drop Rl (nI p) sg = 1 := by
  have e1 : (nI p).toNatClampNeg = p := nI_clamp (by omega)
  unfold f_drop
  rw [if_neg (nI_nb hp), e1, if_pos h]
theorem fd_2 (hp : p < 8) (h : ¬ Rl p = -1) : f_drop Rl (nI p) sg = 0 := by
  have e1 : (nI p).toNatClampNeg = p := nI_clamp (by omega)
  unfold f_drop
  rw [if_neg (nI_nb hp), e1, if_neg h]
end FS
/-- the class's rows, the other side's: as both know them -/
theorem al_ {fl : RF} {p : Nat} (hp : p < 8) : abl fl p = fl p := if_pos hp
theorem an_ {fl fe : RF} {p : Nat} (hp : p < 8) (h : ¬ fl p = -1) : abn fl fe p = fe p := if_pos ⟨hp, h⟩
theorem ml_ {fn fz : RF} {p q : Nat} (hp : p < 8) (h : fz p = nI q) (hq : q ≤ 40) : mbl fn fz p = fn p := if_pos ⟨hp, by rw [h]; exact nI_m1 hq⟩
theorem ml_n {fn fz : RF} {p : Nat} (h : fz p = -1) : mbl fn fz p = -1 := if_neg (fun z => z.2 h)
theorem mn_ {fz : RF} {p q : Nat} (hp : p < 8) (h : fz p = nI q) (hq : q ≤ 40) : mbn fz p = nI q := (if_pos ⟨hp, by rw [h]; exact nI_m1 hq⟩).trans h
section XS
variable {fl fe : RF} {I J : ITm} {p q k x y m : Nat} {i j n v sg o : Int32}
theorem xs_0 {a : Int32} (h : badr a) : sg = f_set (abl fl) (abn fl fe) a i sg := (fs_0 h).symm
theorem xs_1 (hp : p < 8) (h : fl p = -1) (e : o = 1) : o = f_set (abl fl) (abn fl fe) (nI p) i sg := e.trans (fs_1 hp ((al_ hp).trans h)).symm
theorem xs_2 (hp : p < 8) (h : ¬ fl p = -1) (h2 : ¬ plc (fe p) i 1) (e : o = 2) : o = f_set (abl fl) (abn fl fe) (nI p) i sg := e.trans (fs_2 hp (by rw [al_ hp]; exact h) (by rw [an_ hp h]; exact h2)).symm
theorem xs_3 (hp : p < 8) (h : ¬ fl p = -1) (h2 : plc (fe p) i 1) (e : o = 0) : o = f_set (abl fl) (abn fl fe) (nI p) i sg := e.trans (fs_3 hp (by rw [al_ hp]; exact h) (by rw [an_ hp h]; exact h2)).symm
theorem xi_0 {a : Int32} (h : badr a) : I = n_its (abl fl) (abn fl fe) I a i v := (its_0 h).symm
theorem xi_1 (hp : p < 8) (h : fl p = -1) : I = n_its (abl fl) (abn fl fe) I (nI p) i v := (its_1 hp ((al_ hp).trans h)).symm
theorem xi_2 (hp : p < 8) (h : ¬ fl p = -1) (h2 : ¬ plc (fe p) i 1) : I = n_its (abl fl) (abn fl fe) I (nI p) i v := (its_2 hp (by rw [an_ hp h]; exact h2)).symm
theorem xi_3 (hp : p < 8) (h : ¬ fl p = -1) (h2 : plc (fe p) (nI k) 1) (hk : k < 100) (e : J = upI I p (upd (I p) k (laneX (fl p) v))) : J = n_its (abl fl) (abn fl fe) I (nI p) (nI k) v := by
  rw [its_3 hp (by rw [al_ hp]; exact h) (by rw [an_ hp h]; exact h2) hk, al_ hp]
  exact e
theorem xc_0 {a b : Int32} (h : badr a ∨ badr b) : sg = f_copy (abl fl) (abn fl fe) a i b j n sg := (fc_0 h).symm
theorem xc_1 (hp : p < 8) (hq : q < 8) (h : fl p = -1 ∨ fl q = -1) (e : o = 1) : o = f_copy (abl fl) (abn fl fe) (nI p) i (nI q) j n sg := e.trans (fc_1 hp hq (by rw [al_ hp, al_ hq]; exact h)).symm
theorem xc_2 (hp : p < 8) (hq : q < 8) (h1 : ¬ fl p = -1) (h2 : ¬ fl q = -1) (h : ¬ fl p = fl q) (e : o = 5) : o = f_copy (abl fl) (abn fl fe) (nI p) i (nI q) j n sg := e.trans (fc_2 hp hq (by rw [al_ hp]; exact h1) (by rw [al_ hq]; exact h2) (by rw [al_ hp, al_ hq]; exact h)).symm
theorem xc_3 (hp : p < 8) (hq : q < 8) (h1 : ¬ fl p = -1) (h2 : ¬ fl q = -1) (h : fl p = fl q) (h3 : ¬ plc (fe p) i n ∨ ¬ plc (fe q) j n) (e : o = 2) : o = f_copy (abl fl) (abn fl fe) (nI p) i (nI q) j n sg := e.trans (fc_3 hp hq (by rw [al_ hp]; exact h1) (by rw [al_ hq]; exact h2) (by rw [al_ hp, al_ hq]; exact h) (by rw [an_ hp h1, an_ hq h2]; exact h3)).symm
theorem xc_4 (hp : p < 8) (hq : q < 8) (h1 : ¬ fl p = -1) (h2 : ¬ fl q = -1) (h : fl p = fl q) (h3 : plc (fe p) i n) (h4 : plc (fe q) j n) (e : o = 0) : o = f_copy (abl fl) (abn fl fe) (nI p) i (nI q) j n sg := e.trans (fc_4 hp hq (by rw [al_ hp]; exact h1) (by rw [al_ hq]; exact h2) (by rw [al_ hp, al_ hq]; exact h) (by rw [an_ hp h1]; exact h3) (by rw [an_ hq h2]; exact h4)).symm
theorem xj_0 {a b : Int32} (h : badr a ∨ badr b) : I = n_itc (abl fl) (abn fl fe) I a i b j n := (itc_0 h).symm
theorem xj_1 (hp : p < 8) (hq : q < 8) (h : fl p = -1 ∨ fl q = -1) : I = n_itc (abl fl) (abn fl fe) I (nI p) i (nI q) j n := (itc_n hp hq (Or.inl (by rw [al_ hp, al_ hq]; exact h))).symm
theorem xj_2 (hp : p < 8) (hq : q < 8) (h : ¬ fl p = fl q) : I = n_itc (abl fl) (abn fl fe) I (nI p) i (nI q) j n := (itc_n hp hq (Or.inr (Or.inl (by rw [al_ hp, al_ hq]; exact h)))).symm
theorem xj_3 (hp : p < 8) (hq : q < 8) (h1 : ¬ fl p = -1) (h2 : ¬ fl q = -1) (h3 : ¬ plc (fe p) i n ∨ ¬ plc (fe q) j n) : I = n_itc (abl fl) (abn fl fe) I (nI p) i (nI q) j n := (itc_n hp hq (Or.inr (Or.inr (by rw [an_ hp h1, an_ hq h2]; exact h3)))).symm
theorem xj_4 (hp : p < 8) (hq : q < 8) (h1 : ¬ fl p = -1) (h2 : ¬ fl q = -1) (h : fl p = fl q) (h3 : plc (fe p) (nI x) (nI m)) (h4 : plc (fe q) (nI y) (nI m)) (hx : x < 100) (hy : y < 100) (hm : m < 100) (e : J = upI I q (cpI (I p) (I q) x y m)) : J = n_itc (abl fl) (abn fl fe) I (nI p) (nI x) (nI q) (nI y) (nI m) := by
  rw [itc_y hp hq (by rw [al_ hp]; exact h1) (by rw [al_ hq]; exact h2) (by rw [al_ hp, al_ hq]; exact h) (by rw [an_ hp h1]; exact h3) (by rw [an_ hq h2]; exact h4) hx hy hm]
  exact e
theorem xd_0 {a : Int32} (h : badr a) : sg = f_drop (abl fl) a sg := (fd_0 h).symm
theorem xd_1 (hp : p < 8) (h : fl p = -1) (e : o = 1) : o = f_drop (abl fl) (nI p) sg := e.trans (fd_1 hp ((al_ hp).trans h)).symm
theorem xd_2 (hp : p < 8) (h : ¬ fl p = -1) (e : o = 0) : o = f_drop (abl fl) (nI p) sg := e.trans (fd_2 hp (by rw [al_ hp]; exact h)).symm
end XS
theorem it_z : itX (fun _ => 0) (fun _ => 0) (fun _ => 0) (fun _ => 0) (fun _ => 0) (fun _ => 0) (fun _ => 0) (fun _ => 0) = (fun _ _ => 0) := by
  funext q i
  unfold itX
  split
  · match q with
    | 0 => rfl
    | 1 => rfl
    | 2 => rfl
    | 3 => rfl
    | 4 => rfl
    | 5 => rfl
    | 6 => rfl
    | 7 => rfl
    | n + 8 => rfl
  · rfl
theorem dJ7_fill_53178_0 : decode cJ7_fill_53178 0 = .ok (.iconst 0, 1) := dq_3 (by decide +kernel)
theorem dJ7_fill_53178_1 : decode cJ7_fill_53178 1 = .ok (.istore_n 2, 1) := dq_61 (by decide +kernel)
theorem dJ7_fill_53178_10 : decode cJ7_fill_53178 10 = .ok (.aload_n 0, 1) := dq_42 (by decide +kernel)
theorem dJ7_fill_53178_11 : decode cJ7_fill_53178 11 = .ok (.iload_n 2, 1) := dq_28 (by decide +kernel)
theorem dJ7_fill_53178_12 : decode cJ7_fill_53178 12 = .ok (.iload_n 1, 1) := dq_27 (by decide +kernel)
theorem dJ7_fill_53178_13 : decode cJ7_fill_53178 13 = .ok (.iastore, 1) := dq_79 (by decide +kernel)
theorem dJ7_fill_53178_14 : decode cJ7_fill_53178 14 = .ok (.iinc 2 1, 3) := dq_132 (b1 := 2) (b2 := 1) (by decide +kernel) (by decide) (by decide)
theorem dJ7_fill_53178_17 : decode cJ7_fill_53178 17 = .ok (.goto (-12), 3) := dq_167 (b1 := 255) (b2 := 244) (by decide +kernel) (by decide)
theorem dJ7_fill_53178_2 : decode cJ7_fill_53178 2 = .ok (.aload_n 0, 1) := dq_42 (by decide +kernel)
theorem dJ7_fill_53178_20 : decode cJ7_fill_53178 20 = .ok (.return_, 1) := dq_177 (by decide +kernel)
theorem dJ7_fill_53178_3 : decode cJ7_fill_53178 3 = .ok (.arraylength, 1) := dq_190 (by decide +kernel)
theorem dJ7_fill_53178_4 : decode cJ7_fill_53178 4 = .ok (.istore_n 3, 1) := dq_62 (by decide +kernel)
theorem dJ7_fill_53178_5 : decode cJ7_fill_53178 5 = .ok (.iload_n 2, 1) := dq_28 (by decide +kernel)
theorem dJ7_fill_53178_6 : decode cJ7_fill_53178 6 = .ok (.iload_n 3, 1) := dq_29 (by decide +kernel)
theorem dJ7_fill_53178_7 : decode cJ7_fill_53178 7 = .ok (.if_icmp .ge 13, 3) := dq_162 (b1 := 0) (b2 := 13) (by decide +kernel) (by decide)
theorem dX5_findingOfMove_0 : decode cX5_findingOfMove 0 = .ok (.aload_n 0, 1) := dq_42 (by decide +kernel)
theorem dX5_findingOfMove_1 : decode cX5_findingOfMove 1 = .ok (.iload_n 1, 1) := dq_27 (by decide +kernel)
theorem dX5_findingOfMove_10 : decode cX5_findingOfMove 10 = .ok (.invokevirtual 29, 3) := dq_182 (b1 := 0) (b2 := 29) (by decide +kernel) (by decide)
theorem dX5_findingOfMove_13 : decode cX5_findingOfMove 13 = .ok (.ifCond .eq 5, 3) := dq_153 (b1 := 0) (b2 := 5) (by decide +kernel) (by decide)
theorem dX5_findingOfMove_16 : decode cX5_findingOfMove 16 = .ok (.iconst 1, 1) := dq_4 (by decide +kernel)
theorem dX5_findingOfMove_17 : decode cX5_findingOfMove 17 = .ok (.ireturn, 1) := dq_172 (by decide +kernel)
theorem dX5_findingOfMove_18 : decode cX5_findingOfMove 18 = .ok (.aload_n 0, 1) := dq_42 (by decide +kernel)
theorem dX5_findingOfMove_19 : decode cX5_findingOfMove 19 = .ok (.getfield 16, 3) := dq_180 (b1 := 0) (b2 := 16) (by decide +kernel) (by decide)
theorem dX5_findingOfMove_2 : decode cX5_findingOfMove 2 = .ok (.invokevirtual 29, 3) := dq_182 (b1 := 0) (b2 := 29) (by decide +kernel) (by decide)
theorem dX5_findingOfMove_22 : decode cX5_findingOfMove 22 = .ok (.iload_n 1, 1) := dq_27 (by decide +kernel)
theorem dX5_findingOfMove_23 : decode cX5_findingOfMove 23 = .ok (.iaload, 1) := dq_46 (by decide +kernel)
theorem dX5_findingOfMove_24 : decode cX5_findingOfMove 24 = .ok (.aload_n 0, 1) := dq_42 (by decide +kernel)
theorem dX5_findingOfMove_25 : decode cX5_findingOfMove 25 = .ok (.getfield 16, 3) := dq_180 (b1 := 0) (b2 := 16) (by decide +kernel) (by decide)
theorem dX5_findingOfMove_28 : decode cX5_findingOfMove 28 = .ok (.iload_n 3, 1) := dq_29 (by decide +kernel)
theorem dX5_findingOfMove_29 : decode cX5_findingOfMove 29 = .ok (.iaload, 1) := dq_46 (by decide +kernel)
theorem dX5_findingOfMove_30 : decode cX5_findingOfMove 30 = .ok (.if_icmp .eq 5, 3) := dq_159 (b1 := 0) (b2 := 5) (by decide +kernel) (by decide)
theorem dX5_findingOfMove_33 : decode cX5_findingOfMove 33 = .ok (.iconst 5, 1) := dq_8 (by decide +kernel)
theorem dX5_findingOfMove_34 : decode cX5_findingOfMove 34 = .ok (.ireturn, 1) := dq_172 (by decide +kernel)
theorem dX5_findingOfMove_35 : decode cX5_findingOfMove 35 = .ok (.aload_n 0, 1) := dq_42 (by decide +kernel)
theorem dX5_findingOfMove_36 : decode cX5_findingOfMove 36 = .ok (.iload_n 1, 1) := dq_27 (by decide +kernel)
theorem dX5_findingOfMove_37 : decode cX5_findingOfMove 37 = .ok (.iload_n 2, 1) := dq_28 (by decide +kernel)
theorem dX5_findingOfMove_38 : decode cX5_findingOfMove 38 = .ok (.iload 5, 2) := dq_21 (b1 := 5) (by decide +kernel) (by decide)
theorem dX5_findingOfMove_40 : decode cX5_findingOfMove 40 = .ok (.invokevirtual 33, 3) := dq_182 (b1 := 0) (b2 := 33) (by decide +kernel) (by decide)
theorem dX5_findingOfMove_43 : decode cX5_findingOfMove 43 = .ok (.ifCond .eq 19, 3) := dq_153 (b1 := 0) (b2 := 19) (by decide +kernel) (by decide)
theorem dX5_findingOfMove_46 : decode cX5_findingOfMove 46 = .ok (.aload_n 0, 1) := dq_42 (by decide +kernel)
theorem dX5_findingOfMove_47 : decode cX5_findingOfMove 47 = .ok (.iload_n 3, 1) := dq_29 (by decide +kernel)
theorem dX5_findingOfMove_48 : decode cX5_findingOfMove 48 = .ok (.iload 4, 2) := dq_21 (b1 := 4) (by decide +kernel) (by decide)
theorem dX5_findingOfMove_5 : decode cX5_findingOfMove 5 = .ok (.ifCond .ne 11, 3) := dq_154 (b1 := 0) (b2 := 11) (by decide +kernel) (by decide)
theorem dX5_findingOfMove_50 : decode cX5_findingOfMove 50 = .ok (.iload 5, 2) := dq_21 (b1 := 5) (by decide +kernel) (by decide)
theorem dX5_findingOfMove_52 : decode cX5_findingOfMove 52 = .ok (.invokevirtual 33, 3) := dq_182 (b1 := 0) (b2 := 33) (by decide +kernel) (by decide)
theorem dX5_findingOfMove_55 : decode cX5_findingOfMove 55 = .ok (.ifCond .eq 7, 3) := dq_153 (b1 := 0) (b2 := 7) (by decide +kernel) (by decide)
theorem dX5_findingOfMove_58 : decode cX5_findingOfMove 58 = .ok (.iconst 0, 1) := dq_3 (by decide +kernel)
theorem dX5_findingOfMove_59 : decode cX5_findingOfMove 59 = .ok (.goto 4, 3) := dq_167 (b1 := 0) (b2 := 4) (by decide +kernel) (by decide)
theorem dX5_findingOfMove_62 : decode cX5_findingOfMove 62 = .ok (.iconst 2, 1) := dq_5 (by decide +kernel)
theorem dX5_findingOfMove_63 : decode cX5_findingOfMove 63 = .ok (.ireturn, 1) := dq_172 (by decide +kernel)
theorem dX5_findingOfMove_8 : decode cX5_findingOfMove 8 = .ok (.aload_n 0, 1) := dq_42 (by decide +kernel)
theorem dX5_findingOfMove_9 : decode cX5_findingOfMove 9 = .ok (.iload_n 3, 1) := dq_29 (by decide +kernel)
theorem dX5_findingOf_0 : decode cX5_findingOf 0 = .ok (.aload_n 0, 1) := dq_42 (by decide +kernel)
theorem dX5_findingOf_1 : decode cX5_findingOf 1 = .ok (.iload_n 1, 1) := dq_27 (by decide +kernel)
theorem dX5_findingOf_10 : decode cX5_findingOf 10 = .ok (.aload_n 0, 1) := dq_42 (by decide +kernel)
theorem dX5_findingOf_11 : decode cX5_findingOf 11 = .ok (.iload_n 1, 1) := dq_27 (by decide +kernel)
theorem dX5_findingOf_12 : decode cX5_findingOf 12 = .ok (.iload_n 2, 1) := dq_28 (by decide +kernel)
theorem dX5_findingOf_13 : decode cX5_findingOf 13 = .ok (.iload_n 3, 1) := dq_29 (by decide +kernel)
theorem dX5_findingOf_14 : decode cX5_findingOf 14 = .ok (.invokevirtual 33, 3) := dq_182 (b1 := 0) (b2 := 33) (by decide +kernel) (by decide)
theorem dX5_findingOf_17 : decode cX5_findingOf 17 = .ok (.ifCond .eq 7, 3) := dq_153 (b1 := 0) (b2 := 7) (by decide +kernel) (by decide)
theorem dX5_findingOf_2 : decode cX5_findingOf 2 = .ok (.invokevirtual 29, 3) := dq_182 (b1 := 0) (b2 := 29) (by decide +kernel) (by decide)
theorem dX5_findingOf_20 : decode cX5_findingOf 20 = .ok (.iconst 0, 1) := dq_3 (by decide +kernel)
theorem dX5_findingOf_21 : decode cX5_findingOf 21 = .ok (.goto 4, 3) := dq_167 (b1 := 0) (b2 := 4) (by decide +kernel) (by decide)
theorem dX5_findingOf_24 : decode cX5_findingOf 24 = .ok (.iconst 2, 1) := dq_5 (by decide +kernel)
theorem dX5_findingOf_25 : decode cX5_findingOf 25 = .ok (.ireturn, 1) := dq_172 (by decide +kernel)
theorem dX5_findingOf_5 : decode cX5_findingOf 5 = .ok (.ifCond .eq 5, 3) := dq_153 (b1 := 0) (b2 := 5) (by decide +kernel) (by decide)
theorem dX5_findingOf_8 : decode cX5_findingOf 8 = .ok (.iconst 1, 1) := dq_4 (by decide +kernel)
theorem dX5_findingOf_9 : decode cX5_findingOf 9 = .ok (.ireturn, 1) := dq_172 (by decide +kernel)
theorem dX5_hasPlaces_0 : decode cX5_hasPlaces 0 = .ok (.iload_n 2, 1) := dq_28 (by decide +kernel)
theorem dX5_hasPlaces_1 : decode cX5_hasPlaces 1 = .ok (.ifCond .lt 23, 3) := dq_155 (b1 := 0) (b2 := 23) (by decide +kernel) (by decide)
theorem dX5_hasPlaces_10 : decode cX5_hasPlaces 10 = .ok (.getfield 20, 3) := dq_180 (b1 := 0) (b2 := 20) (by decide +kernel) (by decide)
theorem dX5_hasPlaces_13 : decode cX5_hasPlaces 13 = .ok (.iload_n 1, 1) := dq_27 (by decide +kernel)
theorem dX5_hasPlaces_14 : decode cX5_hasPlaces 14 = .ok (.iaload, 1) := dq_46 (by decide +kernel)
theorem dX5_hasPlaces_15 : decode cX5_hasPlaces 15 = .ok (.iload_n 3, 1) := dq_29 (by decide +kernel)
theorem dX5_hasPlaces_16 : decode cX5_hasPlaces 16 = .ok (.isub, 1) := dq_100 (by decide +kernel)
theorem dX5_hasPlaces_17 : decode cX5_hasPlaces 17 = .ok (.if_icmp .gt 7, 3) := dq_163 (b1 := 0) (b2 := 7) (by decide +kernel) (by decide)
theorem dX5_hasPlaces_20 : decode cX5_hasPlaces 20 = .ok (.iconst 1, 1) := dq_4 (by decide +kernel)
theorem dX5_hasPlaces_21 : decode cX5_hasPlaces 21 = .ok (.goto 4, 3) := dq_167 (b1 := 0) (b2 := 4) (by decide +kernel) (by decide)
theorem dX5_hasPlaces_24 : decode cX5_hasPlaces 24 = .ok (.iconst 0, 1) := dq_3 (by decide +kernel)
theorem dX5_hasPlaces_25 : decode cX5_hasPlaces 25 = .ok (.ireturn, 1) := dq_172 (by decide +kernel)
theorem dX5_hasPlaces_4 : decode cX5_hasPlaces 4 = .ok (.iload_n 3, 1) := dq_29 (by decide +kernel)
theorem dX5_hasPlaces_5 : decode cX5_hasPlaces 5 = .ok (.ifCond .lt 19, 3) := dq_155 (b1 := 0) (b2 := 19) (by decide +kernel) (by decide)
theorem dX5_hasPlaces_8 : decode cX5_hasPlaces 8 = .ok (.iload_n 2, 1) := dq_28 (by decide +kernel)
theorem dX5_hasPlaces_9 : decode cX5_hasPlaces 9 = .ok (.aload_n 0, 1) := dq_42 (by decide +kernel)
theorem dX5_isLane_0 : decode cX5_isLane 0 = .ok (.iload_n 0, 1) := dq_26 (by decide +kernel)
theorem dX5_isLane_1 : decode cX5_isLane 1 = .ok (.ifCond .lt 12, 3) := dq_155 (b1 := 0) (b2 := 12) (by decide +kernel) (by decide)
theorem dX5_isLane_10 : decode cX5_isLane 10 = .ok (.goto 4, 3) := dq_167 (b1 := 0) (b2 := 4) (by decide +kernel) (by decide)
theorem dX5_isLane_13 : decode cX5_isLane 13 = .ok (.iconst 0, 1) := dq_3 (by decide +kernel)
theorem dX5_isLane_14 : decode cX5_isLane 14 = .ok (.ireturn, 1) := dq_172 (by decide +kernel)
theorem dX5_isLane_4 : decode cX5_isLane 4 = .ok (.iload_n 0, 1) := dq_26 (by decide +kernel)
theorem dX5_isLane_5 : decode cX5_isLane 5 = .ok (.iconst 2, 1) := dq_5 (by decide +kernel)
theorem dX5_isLane_6 : decode cX5_isLane 6 = .ok (.if_icmp .gt 7, 3) := dq_163 (b1 := 0) (b2 := 7) (by decide +kernel) (by decide)
theorem dX5_isLane_9 : decode cX5_isLane 9 = .ok (.iconst 1, 1) := dq_4 (by decide +kernel)
theorem dX5_isMissing_0 : decode cX5_isMissing 0 = .ok (.aload_n 0, 1) := dq_42 (by decide +kernel)
theorem dX5_isMissing_1 : decode cX5_isMissing 1 = .ok (.getfield 16, 3) := dq_180 (b1 := 0) (b2 := 16) (by decide +kernel) (by decide)
theorem dX5_isMissing_10 : decode cX5_isMissing 10 = .ok (.iconst 1, 1) := dq_4 (by decide +kernel)
theorem dX5_isMissing_11 : decode cX5_isMissing 11 = .ok (.goto 4, 3) := dq_167 (b1 := 0) (b2 := 4) (by decide +kernel) (by decide)
theorem dX5_isMissing_14 : decode cX5_isMissing 14 = .ok (.iconst 0, 1) := dq_3 (by decide +kernel)
theorem dX5_isMissing_15 : decode cX5_isMissing 15 = .ok (.ireturn, 1) := dq_172 (by decide +kernel)
theorem dX5_isMissing_4 : decode cX5_isMissing 4 = .ok (.iload_n 1, 1) := dq_27 (by decide +kernel)
theorem dX5_isMissing_5 : decode cX5_isMissing 5 = .ok (.iaload, 1) := dq_46 (by decide +kernel)
theorem dX5_isMissing_6 : decode cX5_isMissing 6 = .ok (.iconst (-1), 1) := dq_2 (by decide +kernel)
theorem dX5_isMissing_7 : decode cX5_isMissing 7 = .ok (.if_icmp .ne 7, 3) := dq_160 (b1 := 0) (b2 := 7) (by decide +kernel) (by decide)
theorem dX5_isRow_0 : decode cX5_isRow 0 = .ok (.iload_n 0, 1) := dq_26 (by decide +kernel)
theorem dX5_isRow_1 : decode cX5_isRow 1 = .ok (.ifCond .lt 13, 3) := dq_155 (b1 := 0) (b2 := 13) (by decide +kernel) (by decide)
theorem dX5_isRow_10 : decode cX5_isRow 10 = .ok (.iconst 1, 1) := dq_4 (by decide +kernel)
theorem dX5_isRow_11 : decode cX5_isRow 11 = .ok (.goto 4, 3) := dq_167 (b1 := 0) (b2 := 4) (by decide +kernel) (by decide)
theorem dX5_isRow_14 : decode cX5_isRow 14 = .ok (.iconst 0, 1) := dq_3 (by decide +kernel)
theorem dX5_isRow_15 : decode cX5_isRow 15 = .ok (.ireturn, 1) := dq_172 (by decide +kernel)
theorem dX5_isRow_4 : decode cX5_isRow 4 = .ok (.iload_n 0, 1) := dq_26 (by decide +kernel)
theorem dX5_isRow_5 : decode cX5_isRow 5 = .ok (.bipush 8, 2) := dq_16 (b1 := 8) (by decide +kernel) (by decide)
theorem dX5_isRow_7 : decode cX5_isRow 7 = .ok (.if_icmp .ge 7, 3) := dq_162 (b1 := 0) (b2 := 7) (by decide +kernel) (by decide)
theorem dX5_item_0 : decode cX5_item 0 = .ok (.aload_n 0, 1) := dq_42 (by decide +kernel)
theorem dX5_item_1 : decode cX5_item 1 = .ok (.getfield 13, 3) := dq_180 (b1 := 0) (b2 := 13) (by decide +kernel) (by decide)
theorem dX5_item_4 : decode cX5_item 4 = .ok (.iload_n 1, 1) := dq_27 (by decide +kernel)
theorem dX5_item_5 : decode cX5_item 5 = .ok (.aaload, 1) := dq_50 (by decide +kernel)
theorem dX5_item_6 : decode cX5_item 6 = .ok (.iload_n 2, 1) := dq_28 (by decide +kernel)
theorem dX5_item_7 : decode cX5_item 7 = .ok (.iaload, 1) := dq_46 (by decide +kernel)
theorem dX5_item_8 : decode cX5_item 8 = .ok (.ireturn, 1) := dq_172 (by decide +kernel)
theorem dX5_make_0 : decode cX5_make 0 = .ok (.aload_n 0, 1) := dq_42 (by decide +kernel)
theorem dX5_make_1 : decode cX5_make 1 = .ok (.getfield 16, 3) := dq_180 (b1 := 0) (b2 := 16) (by decide +kernel) (by decide)
theorem dX5_make_11 : decode cX5_make 11 = .ok (.iload_n 1, 1) := dq_27 (by decide +kernel)
theorem dX5_make_12 : decode cX5_make 12 = .ok (.iload_n 3, 1) := dq_29 (by decide +kernel)
theorem dX5_make_13 : decode cX5_make 13 = .ok (.iastore, 1) := dq_79 (by decide +kernel)
theorem dX5_make_14 : decode cX5_make 14 = .ok (.aload_n 0, 1) := dq_42 (by decide +kernel)
theorem dX5_make_15 : decode cX5_make 15 = .ok (.getfield 13, 3) := dq_180 (b1 := 0) (b2 := 13) (by decide +kernel) (by decide)
theorem dX5_make_18 : decode cX5_make 18 = .ok (.iload_n 1, 1) := dq_27 (by decide +kernel)
theorem dX5_make_19 : decode cX5_make 19 = .ok (.aaload, 1) := dq_50 (by decide +kernel)
theorem dX5_make_20 : decode cX5_make 20 = .ok (.iconst 0, 1) := dq_3 (by decide +kernel)
theorem dX5_make_21 : decode cX5_make 21 = .ok (.invokestatic 23, 3) := dq_184 (b1 := 0) (b2 := 23) (by decide +kernel) (by decide)
theorem dX5_make_24 : decode cX5_make 24 = .ok (.return_, 1) := dq_177 (by decide +kernel)
theorem dX5_make_4 : decode cX5_make 4 = .ok (.iload_n 1, 1) := dq_27 (by decide +kernel)
theorem dX5_make_5 : decode cX5_make 5 = .ok (.iload_n 2, 1) := dq_28 (by decide +kernel)
theorem dX5_make_6 : decode cX5_make 6 = .ok (.iastore, 1) := dq_79 (by decide +kernel)
theorem dX5_make_7 : decode cX5_make 7 = .ok (.aload_n 0, 1) := dq_42 (by decide +kernel)
theorem dX5_make_8 : decode cX5_make 8 = .ok (.getfield 20, 3) := dq_180 (b1 := 0) (b2 := 20) (by decide +kernel) (by decide)
theorem dX5_move_0 : decode cX5_move 0 = .ok (.aload_n 0, 1) := dq_42 (by decide +kernel)
theorem dX5_move_1 : decode cX5_move 1 = .ok (.getfield 13, 3) := dq_180 (b1 := 0) (b2 := 13) (by decide +kernel) (by decide)
theorem dX5_move_11 : decode cX5_move 11 = .ok (.iload_n 3, 1) := dq_29 (by decide +kernel)
theorem dX5_move_12 : decode cX5_move 12 = .ok (.aaload, 1) := dq_50 (by decide +kernel)
theorem dX5_move_13 : decode cX5_move 13 = .ok (.iload 4, 2) := dq_21 (b1 := 4) (by decide +kernel) (by decide)
theorem dX5_move_15 : decode cX5_move 15 = .ok (.iload 5, 2) := dq_21 (b1 := 5) (by decide +kernel) (by decide)
theorem dX5_move_17 : decode cX5_move 17 = .ok (.invokestatic 37, 3) := dq_184 (b1 := 0) (b2 := 37) (by decide +kernel) (by decide)
theorem dX5_move_20 : decode cX5_move 20 = .ok (.return_, 1) := dq_177 (by decide +kernel)
theorem dX5_move_4 : decode cX5_move 4 = .ok (.iload_n 1, 1) := dq_27 (by decide +kernel)
theorem dX5_move_5 : decode cX5_move 5 = .ok (.aaload, 1) := dq_50 (by decide +kernel)
theorem dX5_move_6 : decode cX5_move 6 = .ok (.iload_n 2, 1) := dq_28 (by decide +kernel)
theorem dX5_move_7 : decode cX5_move 7 = .ok (.aload_n 0, 1) := dq_42 (by decide +kernel)
theorem dX5_move_8 : decode cX5_move 8 = .ok (.getfield 13, 3) := dq_180 (b1 := 0) (b2 := 13) (by decide +kernel) (by decide)
theorem dX5_present_0 : decode cX5_present 0 = .ok (.iconst 0, 1) := dq_3 (by decide +kernel)
theorem dX5_present_1 : decode cX5_present 1 = .ok (.istore_n 1, 1) := dq_60 (by decide +kernel)
theorem dX5_present_10 : decode cX5_present 10 = .ok (.iload_n 1, 1) := dq_27 (by decide +kernel)
theorem dX5_present_11 : decode cX5_present 11 = .ok (.aload_n 0, 1) := dq_42 (by decide +kernel)
theorem dX5_present_12 : decode cX5_present 12 = .ok (.iload_n 2, 1) := dq_28 (by decide +kernel)
theorem dX5_present_13 : decode cX5_present 13 = .ok (.invokevirtual 29, 3) := dq_182 (b1 := 0) (b2 := 29) (by decide +kernel) (by decide)
theorem dX5_present_16 : decode cX5_present 16 = .ok (.ifCond .eq 7, 3) := dq_153 (b1 := 0) (b2 := 7) (by decide +kernel) (by decide)
theorem dX5_present_19 : decode cX5_present 19 = .ok (.iconst 0, 1) := dq_3 (by decide +kernel)
theorem dX5_present_2 : decode cX5_present 2 = .ok (.iconst 0, 1) := dq_3 (by decide +kernel)
theorem dX5_present_20 : decode cX5_present 20 = .ok (.goto 4, 3) := dq_167 (b1 := 0) (b2 := 4) (by decide +kernel) (by decide)
theorem dX5_present_23 : decode cX5_present 23 = .ok (.iconst 1, 1) := dq_4 (by decide +kernel)
theorem dX5_present_24 : decode cX5_present 24 = .ok (.iadd, 1) := dq_96 (by decide +kernel)
theorem dX5_present_25 : decode cX5_present 25 = .ok (.istore_n 1, 1) := dq_60 (by decide +kernel)
theorem dX5_present_26 : decode cX5_present 26 = .ok (.iinc 2 1, 3) := dq_132 (b1 := 2) (b2 := 1) (by decide +kernel) (by decide) (by decide)
theorem dX5_present_29 : decode cX5_present 29 = .ok (.goto (-25), 3) := dq_167 (b1 := 255) (b2 := 231) (by decide +kernel) (by decide)
theorem dX5_present_3 : decode cX5_present 3 = .ok (.istore_n 2, 1) := dq_61 (by decide +kernel)
theorem dX5_present_32 : decode cX5_present 32 = .ok (.iload_n 1, 1) := dq_27 (by decide +kernel)
theorem dX5_present_33 : decode cX5_present 33 = .ok (.ireturn, 1) := dq_172 (by decide +kernel)
theorem dX5_present_4 : decode cX5_present 4 = .ok (.iload_n 2, 1) := dq_28 (by decide +kernel)
theorem dX5_present_5 : decode cX5_present 5 = .ok (.bipush 8, 2) := dq_16 (b1 := 8) (by decide +kernel) (by decide)
theorem dX5_present_7 : decode cX5_present 7 = .ok (.if_icmp .ge 25, 3) := dq_162 (b1 := 0) (b2 := 25) (by decide +kernel) (by decide)
theorem dX5_put_0 : decode cX5_put 0 = .ok (.iload_n 3, 1) := dq_29 (by decide +kernel)
theorem dX5_put_1 : decode cX5_put 1 = .ok (.istore 4, 2) := dq_54 (b1 := 4) (by decide +kernel) (by decide)
theorem dX5_put_12 : decode cX5_put 12 = .ok (.iload_n 3, 1) := dq_29 (by decide +kernel)
theorem dX5_put_13 : decode cX5_put 13 = .ok (.i2b, 1) := dq_145 (by decide +kernel)
theorem dX5_put_14 : decode cX5_put 14 = .ok (.istore 4, 2) := dq_54 (b1 := 4) (by decide +kernel) (by decide)
theorem dX5_put_16 : decode cX5_put 16 = .ok (.goto 17, 3) := dq_167 (b1 := 0) (b2 := 17) (by decide +kernel) (by decide)
theorem dX5_put_19 : decode cX5_put 19 = .ok (.aload_n 0, 1) := dq_42 (by decide +kernel)
theorem dX5_put_20 : decode cX5_put 20 = .ok (.getfield 16, 3) := dq_180 (b1 := 0) (b2 := 16) (by decide +kernel) (by decide)
theorem dX5_put_23 : decode cX5_put 23 = .ok (.iload_n 1, 1) := dq_27 (by decide +kernel)
theorem dX5_put_24 : decode cX5_put 24 = .ok (.iaload, 1) := dq_46 (by decide +kernel)
theorem dX5_put_25 : decode cX5_put 25 = .ok (.iconst 1, 1) := dq_4 (by decide +kernel)
theorem dX5_put_26 : decode cX5_put 26 = .ok (.if_icmp .ne 7, 3) := dq_160 (b1 := 0) (b2 := 7) (by decide +kernel) (by decide)
theorem dX5_put_29 : decode cX5_put 29 = .ok (.iload_n 3, 1) := dq_29 (by decide +kernel)
theorem dX5_put_3 : decode cX5_put 3 = .ok (.aload_n 0, 1) := dq_42 (by decide +kernel)
theorem dX5_put_30 : decode cX5_put 30 = .ok (.i2s, 1) := dq_147 (by decide +kernel)
theorem dX5_put_31 : decode cX5_put 31 = .ok (.istore 4, 2) := dq_54 (b1 := 4) (by decide +kernel) (by decide)
theorem dX5_put_33 : decode cX5_put 33 = .ok (.aload_n 0, 1) := dq_42 (by decide +kernel)
theorem dX5_put_34 : decode cX5_put 34 = .ok (.getfield 13, 3) := dq_180 (b1 := 0) (b2 := 13) (by decide +kernel) (by decide)
theorem dX5_put_37 : decode cX5_put 37 = .ok (.iload_n 1, 1) := dq_27 (by decide +kernel)
theorem dX5_put_38 : decode cX5_put 38 = .ok (.aaload, 1) := dq_50 (by decide +kernel)
theorem dX5_put_39 : decode cX5_put 39 = .ok (.iload_n 2, 1) := dq_28 (by decide +kernel)
theorem dX5_put_4 : decode cX5_put 4 = .ok (.getfield 16, 3) := dq_180 (b1 := 0) (b2 := 16) (by decide +kernel) (by decide)
theorem dX5_put_40 : decode cX5_put 40 = .ok (.iload 4, 2) := dq_21 (b1 := 4) (by decide +kernel) (by decide)
theorem dX5_put_42 : decode cX5_put 42 = .ok (.iastore, 1) := dq_79 (by decide +kernel)
theorem dX5_put_43 : decode cX5_put 43 = .ok (.iload 4, 2) := dq_21 (b1 := 4) (by decide +kernel) (by decide)
theorem dX5_put_45 : decode cX5_put 45 = .ok (.ireturn, 1) := dq_172 (by decide +kernel)
theorem dX5_put_7 : decode cX5_put 7 = .ok (.iload_n 1, 1) := dq_27 (by decide +kernel)
theorem dX5_put_8 : decode cX5_put 8 = .ok (.iaload, 1) := dq_46 (by decide +kernel)
theorem dX5_put_9 : decode cX5_put 9 = .ok (.ifCond .ne 10, 3) := dq_154 (b1 := 0) (b2 := 10) (by decide +kernel) (by decide)
theorem dX5_remove_0 : decode cX5_remove 0 = .ok (.aload_n 0, 1) := dq_42 (by decide +kernel)
theorem dX5_remove_1 : decode cX5_remove 1 = .ok (.getfield 16, 3) := dq_180 (b1 := 0) (b2 := 16) (by decide +kernel) (by decide)
theorem dX5_remove_11 : decode cX5_remove 11 = .ok (.iload_n 1, 1) := dq_27 (by decide +kernel)
theorem dX5_remove_12 : decode cX5_remove 12 = .ok (.iaload, 1) := dq_46 (by decide +kernel)
theorem dX5_remove_13 : decode cX5_remove 13 = .ok (.ireturn, 1) := dq_172 (by decide +kernel)
theorem dX5_remove_4 : decode cX5_remove 4 = .ok (.iload_n 1, 1) := dq_27 (by decide +kernel)
theorem dX5_remove_5 : decode cX5_remove 5 = .ok (.iconst (-1), 1) := dq_2 (by decide +kernel)
theorem dX5_remove_6 : decode cX5_remove 6 = .ok (.iastore, 1) := dq_79 (by decide +kernel)
theorem dX5_remove_7 : decode cX5_remove 7 = .ok (.aload_n 0, 1) := dq_42 (by decide +kernel)
theorem dX5_remove_8 : decode cX5_remove 8 = .ok (.getfield 20, 3) := dq_180 (b1 := 0) (b2 := 20) (by decide +kernel) (by decide)
theorem mx_X5_findingOfMove_10 : Cond.code yX5_hasPlaces cX5_hasPlaces 4 (some .boolean) ∈ wsX5_findingOfMove := by unfold wsX5_findingOfMove; exact List.mem_cons_of_mem _ (List.mem_append_left _ (List.mem_of_getElem? (i := 9) rfl))
theorem mx_X5_findingOfMove_11 : Cond.fieldLink RX5 20 "MillTalk$Rows" "lengths" "[I" ∈ wsX5_findingOfMove := by unfold wsX5_findingOfMove; exact List.mem_cons_of_mem _ (List.mem_append_left _ (List.mem_of_getElem? (i := 10) rfl))
theorem mb_X5_findingOfMove_wsX50 {w : Cond} (h : w ∈ wsX50) : w ∈ wsX5_findingOfMove := by unfold wsX5_findingOfMove; exact List.mem_cons_of_mem _ (List.mem_append_right _ (h))
theorem ggX5_findingOfMove_X5_hasPlaces : GoodIn wsX5_findingOfMove wsX5_hasPlaces := goodIn_sub (by unfold wsX5_hasPlaces; exact List.forall_mem_cons.mpr ⟨mx_X5_findingOfMove_10, List.forall_mem_append.mpr ⟨List.forall_mem_cons.mpr ⟨mx_X5_findingOfMove_11, fun _ h_ => absurd h_ List.not_mem_nil⟩, (fun _ h_ => mb_X5_findingOfMove_wsX50 h_)⟩⟩) (by decide +kernel)
theorem mx_X5_findingOfMove_7 : Cond.methodLink RX5 33 yX5_hasPlaces ∈ wsX5_findingOfMove := by unfold wsX5_findingOfMove; exact List.mem_cons_of_mem _ (List.mem_append_left _ (List.mem_of_getElem? (i := 6) rfl))
theorem mx_X5_findingOfMove_8 : Cond.instanceMethod yX5_hasPlaces ∈ wsX5_findingOfMove := by unfold wsX5_findingOfMove; exact List.mem_cons_of_mem _ (List.mem_append_left _ (List.mem_of_getElem? (i := 7) rfl))
theorem mx_X5_findingOfMove_9 : Cond.selects RX5 yX5_hasPlaces yX5_hasPlaces ∈ wsX5_findingOfMove := by unfold wsX5_findingOfMove; exact List.mem_cons_of_mem _ (List.mem_append_left _ (List.mem_of_getElem? (i := 8) rfl))
theorem mx_X5_findingOfMove_5 : Cond.initialized RX5 ∈ wsX5_findingOfMove := by unfold wsX5_findingOfMove; exact List.mem_cons_of_mem _ (List.mem_append_left _ (List.mem_of_getElem? (i := 4) rfl))
theorem gX5_findingOfMove_X5_hasPlaces : GoodIn wsX5_findingOfMove (wsV RX5 33 RX5 yX5_hasPlaces wsX5_hasPlaces) := goodIn_app (goodIn_sub (List.forall_mem_cons.mpr ⟨mx_X5_findingOfMove_7, List.forall_mem_cons.mpr ⟨mx_X5_findingOfMove_8, List.forall_mem_cons.mpr ⟨mx_X5_findingOfMove_9, List.forall_mem_cons.mpr ⟨mx_X5_findingOfMove_5, fun _ h_ => absurd h_ List.not_mem_nil⟩⟩⟩⟩) (by decide +kernel)) ggX5_findingOfMove_X5_hasPlaces
theorem mx_X5_findingOfMove_6 : Cond.code yX5_isMissing cX5_isMissing 2 (some .boolean) ∈ wsX5_findingOfMove := by unfold wsX5_findingOfMove; exact List.mem_cons_of_mem _ (List.mem_append_left _ (List.mem_of_getElem? (i := 5) rfl))
theorem mx_X5_findingOfMove_1 : Cond.fieldLink RX5 16 "MillTalk$Rows" "lanes" "[I" ∈ wsX5_findingOfMove := by unfold wsX5_findingOfMove; exact List.mem_cons_of_mem _ (List.mem_append_left _ (List.mem_of_getElem? (i := 0) rfl))
theorem ggX5_findingOfMove_X5_isMissing : GoodIn wsX5_findingOfMove wsX5_isMissing := goodIn_sub (by unfold wsX5_isMissing; exact List.forall_mem_cons.mpr ⟨mx_X5_findingOfMove_6, List.forall_mem_append.mpr ⟨List.forall_mem_cons.mpr ⟨mx_X5_findingOfMove_1, fun _ h_ => absurd h_ List.not_mem_nil⟩, (fun _ h_ => mb_X5_findingOfMove_wsX50 h_)⟩⟩) (by decide +kernel)
theorem mx_X5_findingOfMove_2 : Cond.methodLink RX5 29 yX5_isMissing ∈ wsX5_findingOfMove := by unfold wsX5_findingOfMove; exact List.mem_cons_of_mem _ (List.mem_append_left _ (List.mem_of_getElem? (i := 1) rfl))
theorem mx_X5_findingOfMove_3 : Cond.instanceMethod yX5_isMissing ∈ wsX5_findingOfMove := by unfold wsX5_findingOfMove; exact List.mem_cons_of_mem _ (List.mem_append_left _ (List.mem_of_getElem? (i := 2) rfl))
theorem mx_X5_findingOfMove_4 : Cond.selects RX5 yX5_isMissing yX5_isMissing ∈ wsX5_findingOfMove := by unfold wsX5_findingOfMove; exact List.mem_cons_of_mem _ (List.mem_append_left _ (List.mem_of_getElem? (i := 3) rfl))
theorem gX5_findingOfMove_X5_isMissing : GoodIn wsX5_findingOfMove (wsV RX5 29 RX5 yX5_isMissing wsX5_isMissing) := goodIn_app (goodIn_sub (List.forall_mem_cons.mpr ⟨mx_X5_findingOfMove_2, List.forall_mem_cons.mpr ⟨mx_X5_findingOfMove_3, List.forall_mem_cons.mpr ⟨mx_X5_findingOfMove_4, List.forall_mem_cons.mpr ⟨mx_X5_findingOfMove_5, fun _ h_ => absurd h_ List.not_mem_nil⟩⟩⟩⟩) (by decide +kernel)) ggX5_findingOfMove_X5_isMissing
theorem mx_X5_findingOf_10 : Cond.code yX5_hasPlaces cX5_hasPlaces 4 (some .boolean) ∈ wsX5_findingOf := by unfold wsX5_findingOf; exact List.mem_cons_of_mem _ (List.mem_append_left _ (List.mem_of_getElem? (i := 9) rfl))
theorem mx_X5_findingOf_11 : Cond.fieldLink RX5 20 "MillTalk$Rows" "lengths" "[I" ∈ wsX5_findingOf := by unfold wsX5_findingOf; exact List.mem_cons_of_mem _ (List.mem_append_left _ (List.mem_of_getElem? (i := 10) rfl))
theorem mb_X5_findingOf_wsX50 {w : Cond} (h : w ∈ wsX50) : w ∈ wsX5_findingOf := by unfold wsX5_findingOf; exact List.mem_cons_of_mem _ (List.mem_append_right _ (h))
theorem ggX5_findingOf_X5_hasPlaces : GoodIn wsX5_findingOf wsX5_hasPlaces := goodIn_sub (by unfold wsX5_hasPlaces; exact List.forall_mem_cons.mpr ⟨mx_X5_findingOf_10, List.forall_mem_append.mpr ⟨List.forall_mem_cons.mpr ⟨mx_X5_findingOf_11, fun _ h_ => absurd h_ List.not_mem_nil⟩, (fun _ h_ => mb_X5_findingOf_wsX50 h_)⟩⟩) (by decide +kernel)
theorem mx_X5_findingOf_7 : Cond.methodLink RX5 33 yX5_hasPlaces ∈ wsX5_findingOf := by unfold wsX5_findingOf; exact List.mem_cons_of_mem _ (List.mem_append_left _ (List.mem_of_getElem? (i := 6) rfl))
theorem mx_X5_findingOf_8 : Cond.instanceMethod yX5_hasPlaces ∈ wsX5_findingOf := by unfold wsX5_findingOf; exact List.mem_cons_of_mem _ (List.mem_append_left _ (List.mem_of_getElem? (i := 7) rfl))
theorem mx_X5_findingOf_9 : Cond.selects RX5 yX5_hasPlaces yX5_hasPlaces ∈ wsX5_findingOf := by unfold wsX5_findingOf; exact List.mem_cons_of_mem _ (List.mem_append_left _ (List.mem_of_getElem? (i := 8) rfl))
theorem mx_X5_findingOf_4 : Cond.initialized RX5 ∈ wsX5_findingOf := by unfold wsX5_findingOf; exact List.mem_cons_of_mem _ (List.mem_append_left _ (List.mem_of_getElem? (i := 3) rfl))
theorem gX5_findingOf_X5_hasPlaces : GoodIn wsX5_findingOf (wsV RX5 33 RX5 yX5_hasPlaces wsX5_hasPlaces) := goodIn_app (goodIn_sub (List.forall_mem_cons.mpr ⟨mx_X5_findingOf_7, List.forall_mem_cons.mpr ⟨mx_X5_findingOf_8, List.forall_mem_cons.mpr ⟨mx_X5_findingOf_9, List.forall_mem_cons.mpr ⟨mx_X5_findingOf_4, fun _ h_ => absurd h_ List.not_mem_nil⟩⟩⟩⟩) (by decide +kernel)) ggX5_findingOf_X5_hasPlaces
theorem mx_X5_findingOf_5 : Cond.code yX5_isMissing cX5_isMissing 2 (some .boolean) ∈ wsX5_findingOf := by unfold wsX5_findingOf; exact List.mem_cons_of_mem _ (List.mem_append_left _ (List.mem_of_getElem? (i := 4) rfl))
theorem mx_X5_findingOf_6 : Cond.fieldLink RX5 16 "MillTalk$Rows" "lanes" "[I" ∈ wsX5_findingOf := by unfold wsX5_findingOf; exact List.mem_cons_of_mem _ (List.mem_append_left _ (List.mem_of_getElem? (i := 5) rfl))
theorem ggX5_findingOf_X5_isMissing : GoodIn wsX5_findingOf wsX5_isMissing := goodIn_sub (by unfold wsX5_isMissing; exact List.forall_mem_cons.mpr ⟨mx_X5_findingOf_5, List.forall_mem_append.mpr ⟨List.forall_mem_cons.mpr ⟨mx_X5_findingOf_6, fun _ h_ => absurd h_ List.not_mem_nil⟩, (fun _ h_ => mb_X5_findingOf_wsX50 h_)⟩⟩) (by decide +kernel)
theorem mx_X5_findingOf_1 : Cond.methodLink RX5 29 yX5_isMissing ∈ wsX5_findingOf := by unfold wsX5_findingOf; exact List.mem_cons_of_mem _ (List.mem_append_left _ (List.mem_of_getElem? (i := 0) rfl))
theorem mx_X5_findingOf_2 : Cond.instanceMethod yX5_isMissing ∈ wsX5_findingOf := by unfold wsX5_findingOf; exact List.mem_cons_of_mem _ (List.mem_append_left _ (List.mem_of_getElem? (i := 1) rfl))
theorem mx_X5_findingOf_3 : Cond.selects RX5 yX5_isMissing yX5_isMissing ∈ wsX5_findingOf := by unfold wsX5_findingOf; exact List.mem_cons_of_mem _ (List.mem_append_left _ (List.mem_of_getElem? (i := 2) rfl))
theorem gX5_findingOf_X5_isMissing : GoodIn wsX5_findingOf (wsV RX5 29 RX5 yX5_isMissing wsX5_isMissing) := goodIn_app (goodIn_sub (List.forall_mem_cons.mpr ⟨mx_X5_findingOf_1, List.forall_mem_cons.mpr ⟨mx_X5_findingOf_2, List.forall_mem_cons.mpr ⟨mx_X5_findingOf_3, List.forall_mem_cons.mpr ⟨mx_X5_findingOf_4, fun _ h_ => absurd h_ List.not_mem_nil⟩⟩⟩⟩) (by decide +kernel)) ggX5_findingOf_X5_isMissing
theorem mx_X5_make_7 : Cond.code yJ7_fill_53178 cJ7_fill_53178 4 none ∈ wsX5_make := by unfold wsX5_make; exact List.mem_cons_of_mem _ (List.mem_append_left _ (List.mem_of_getElem? (i := 6) rfl))
theorem ggX5_make_J7_fill_53178 : GoodIn wsX5_make wsJ7_fill_53178 := goodIn_sub (by unfold wsJ7_fill_53178; exact List.forall_mem_cons.mpr ⟨mx_X5_make_7, fun _ h_ => absurd h_ List.not_mem_nil⟩) (by decide +kernel)
set_option maxRecDepth 20000 in
theorem gX5_make_J7_fill_53178 : GoodIn wsX5_make (va_wsS RX5 23 yJ7_fill_53178 wsJ7_fill_53178) := goodIn_app (goodIn_of _ (by decide +kernel)) ggX5_make_J7_fill_53178
theorem mx_X5_present_5 : Cond.code yX5_isMissing cX5_isMissing 2 (some .boolean) ∈ wsX5_present := by unfold wsX5_present; exact List.mem_cons_of_mem _ (List.mem_append_left _ (List.mem_of_getElem? (i := 4) rfl))
theorem mx_X5_present_6 : Cond.fieldLink RX5 16 "MillTalk$Rows" "lanes" "[I" ∈ wsX5_present := by unfold wsX5_present; exact List.mem_cons_of_mem _ (List.mem_append_left _ (List.mem_of_getElem? (i := 5) rfl))
theorem mb_X5_present_wsX50 {w : Cond} (h : w ∈ wsX50) : w ∈ wsX5_present := by unfold wsX5_present; exact List.mem_cons_of_mem _ (List.mem_append_right _ (h))
theorem ggX5_present_X5_isMissing : GoodIn wsX5_present wsX5_isMissing := goodIn_sub (by unfold wsX5_isMissing; exact List.forall_mem_cons.mpr ⟨mx_X5_present_5, List.forall_mem_append.mpr ⟨List.forall_mem_cons.mpr ⟨mx_X5_present_6, fun _ h_ => absurd h_ List.not_mem_nil⟩, (fun _ h_ => mb_X5_present_wsX50 h_)⟩⟩) (by decide +kernel)
theorem mx_X5_present_1 : Cond.methodLink RX5 29 yX5_isMissing ∈ wsX5_present := by unfold wsX5_present; exact List.mem_cons_of_mem _ (List.mem_append_left _ (List.mem_of_getElem? (i := 0) rfl))
theorem mx_X5_present_2 : Cond.instanceMethod yX5_isMissing ∈ wsX5_present := by unfold wsX5_present; exact List.mem_cons_of_mem _ (List.mem_append_left _ (List.mem_of_getElem? (i := 1) rfl))
theorem mx_X5_present_3 : Cond.selects RX5 yX5_isMissing yX5_isMissing ∈ wsX5_present := by unfold wsX5_present; exact List.mem_cons_of_mem _ (List.mem_append_left _ (List.mem_of_getElem? (i := 2) rfl))
theorem mx_X5_present_4 : Cond.initialized RX5 ∈ wsX5_present := by unfold wsX5_present; exact List.mem_cons_of_mem _ (List.mem_append_left _ (List.mem_of_getElem? (i := 3) rfl))
theorem gX5_present_X5_isMissing : GoodIn wsX5_present (wsV RX5 29 RX5 yX5_isMissing wsX5_isMissing) := goodIn_app (goodIn_sub (List.forall_mem_cons.mpr ⟨mx_X5_present_1, List.forall_mem_cons.mpr ⟨mx_X5_present_2, List.forall_mem_cons.mpr ⟨mx_X5_present_3, List.forall_mem_cons.mpr ⟨mx_X5_present_4, fun _ h_ => absurd h_ List.not_mem_nil⟩⟩⟩⟩) (by decide +kernel)) ggX5_present_X5_isMissing
theorem i_X5_findingOfMove_X5 : ∀ w ∈ u_ws RX5 TX5 3, w ∈ wsX5_findingOfMove := fun _ h_ => mb_X5_findingOfMove_wsX50 h_
theorem mb_X5_hasPlaces_wsX50 {w : Cond} (h : w ∈ wsX50) : w ∈ wsX5_hasPlaces := by unfold wsX5_hasPlaces; exact List.mem_cons_of_mem _ (List.mem_append_right _ (h))
theorem i_X5_hasPlaces_X5 : ∀ w ∈ u_ws RX5 TX5 3, w ∈ wsX5_hasPlaces := fun _ h_ => mb_X5_hasPlaces_wsX50 h_
theorem mb_X5_isMissing_wsX50 {w : Cond} (h : w ∈ wsX50) : w ∈ wsX5_isMissing := by unfold wsX5_isMissing; exact List.mem_cons_of_mem _ (List.mem_append_right _ (h))
theorem i_X5_isMissing_X5 : ∀ w ∈ u_ws RX5 TX5 3, w ∈ wsX5_isMissing := fun _ h_ => mb_X5_isMissing_wsX50 h_
theorem mb_X5_item_wsX50 {w : Cond} (h : w ∈ wsX50) : w ∈ wsX5_item := by unfold wsX5_item; exact List.mem_cons_of_mem _ (List.mem_append_right _ (h))
theorem i_X5_item_X5 : ∀ w ∈ u_ws RX5 TX5 3, w ∈ wsX5_item := fun _ h_ => mb_X5_item_wsX50 h_
theorem mb_X5_make_wsX50 {w : Cond} (h : w ∈ wsX50) : w ∈ wsX5_make := by unfold wsX5_make; exact List.mem_cons_of_mem _ (List.mem_append_right _ (h))
theorem i_X5_make_X5 : ∀ w ∈ u_ws RX5 TX5 3, w ∈ wsX5_make := fun _ h_ => mb_X5_make_wsX50 h_
theorem mb_X5_move_wsX50 {w : Cond} (h : w ∈ wsX50) : w ∈ wsX5_move := by unfold wsX5_move; exact List.mem_cons_of_mem _ (List.mem_append_right _ (h))
theorem i_X5_move_X5 : ∀ w ∈ u_ws RX5 TX5 3, w ∈ wsX5_move := fun _ h_ => mb_X5_move_wsX50 h_
theorem mb_X5_put_wsX50 {w : Cond} (h : w ∈ wsX50) : w ∈ wsX5_put := by unfold wsX5_put; exact List.mem_cons_of_mem _ (List.mem_append_right _ (h))
theorem i_X5_put_X5 : ∀ w ∈ u_ws RX5 TX5 3, w ∈ wsX5_put := fun _ h_ => mb_X5_put_wsX50 h_
theorem mb_X5_remove_wsX50 {w : Cond} (h : w ∈ wsX50) : w ∈ wsX5_remove := by unfold wsX5_remove; exact List.mem_cons_of_mem _ (List.mem_append_right _ (h))
theorem i_X5_remove_X5 : ∀ w ∈ u_ws RX5 TX5 3, w ∈ wsX5_remove := fun _ h_ => mb_X5_remove_wsX50 h_
theorem mx_X5_isMissing_1 : Cond.fieldLink RX5 16 "MillTalk$Rows" "lanes" "[I" ∈ wsX5_isMissing := by unfold wsX5_isMissing; exact List.mem_cons_of_mem _ (List.mem_append_left _ (List.mem_of_getElem? (i := 0) rfl))
theorem mx_X5_hasPlaces_1 : Cond.fieldLink RX5 20 "MillTalk$Rows" "lengths" "[I" ∈ wsX5_hasPlaces := by unfold wsX5_hasPlaces; exact List.mem_cons_of_mem _ (List.mem_append_left _ (List.mem_of_getElem? (i := 0) rfl))
theorem mx_X5_item_1 : Cond.fieldLink RX5 13 "MillTalk$Rows" "items" "[[I" ∈ wsX5_item := by unfold wsX5_item; exact List.mem_cons_of_mem _ (List.mem_append_left _ (List.mem_of_getElem? (i := 0) rfl))
theorem mx_X5_put_1 : Cond.fieldLink RX5 16 "MillTalk$Rows" "lanes" "[I" ∈ wsX5_put := by unfold wsX5_put; exact List.mem_cons_of_mem _ (List.mem_append_left _ (List.mem_of_getElem? (i := 0) rfl))
theorem mx_X5_put_2 : Cond.fieldLink RX5 13 "MillTalk$Rows" "items" "[[I" ∈ wsX5_put := by unfold wsX5_put; exact List.mem_cons_of_mem _ (List.mem_append_left _ (List.mem_of_getElem? (i := 1) rfl))
theorem mx_X5_move_1 : Cond.fieldLink RX5 13 "MillTalk$Rows" "items" "[[I" ∈ wsX5_move := by unfold wsX5_move; exact List.mem_cons_of_mem _ (List.mem_append_left _ (List.mem_of_getElem? (i := 0) rfl))
theorem mx_X5_move_2 : Cond.methodLink RX5 37 arraycopyName ∈ wsX5_move := by unfold wsX5_move; exact List.mem_cons_of_mem _ (List.mem_append_left _ (List.mem_of_getElem? (i := 1) rfl))
theorem mx_X5_move_3 : Cond.native arraycopyName ∈ wsX5_move := by unfold wsX5_move; exact List.mem_cons_of_mem _ (List.mem_append_left _ (List.mem_of_getElem? (i := 2) rfl))
theorem mx_X5_move_4 : Cond.static arraycopyName ∈ wsX5_move := by unfold wsX5_move; exact List.mem_cons_of_mem _ (List.mem_append_left _ (List.mem_of_getElem? (i := 3) rfl))
theorem mx_X5_move_5 : Cond.initialized "java/lang/System" ∈ wsX5_move := by unfold wsX5_move; exact List.mem_cons_of_mem _ (List.mem_append_left _ (List.mem_of_getElem? (i := 4) rfl))
theorem mx_X5_remove_1 : Cond.fieldLink RX5 16 "MillTalk$Rows" "lanes" "[I" ∈ wsX5_remove := by unfold wsX5_remove; exact List.mem_cons_of_mem _ (List.mem_append_left _ (List.mem_of_getElem? (i := 0) rfl))
theorem mx_X5_remove_2 : Cond.fieldLink RX5 20 "MillTalk$Rows" "lengths" "[I" ∈ wsX5_remove := by unfold wsX5_remove; exact List.mem_cons_of_mem _ (List.mem_append_left _ (List.mem_of_getElem? (i := 1) rfl))
theorem mx_X5_make_1 : Cond.fieldLink RX5 16 "MillTalk$Rows" "lanes" "[I" ∈ wsX5_make := by unfold wsX5_make; exact List.mem_cons_of_mem _ (List.mem_append_left _ (List.mem_of_getElem? (i := 0) rfl))
theorem mx_X5_make_2 : Cond.fieldLink RX5 20 "MillTalk$Rows" "lengths" "[I" ∈ wsX5_make := by unfold wsX5_make; exact List.mem_cons_of_mem _ (List.mem_append_left _ (List.mem_of_getElem? (i := 1) rfl))
theorem mx_X5_make_3 : Cond.fieldLink RX5 13 "MillTalk$Rows" "items" "[[I" ∈ wsX5_make := by unfold wsX5_make; exact List.mem_cons_of_mem _ (List.mem_append_left _ (List.mem_of_getElem? (i := 2) rfl))
