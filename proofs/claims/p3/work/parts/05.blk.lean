/-! Levels in any number: six cells each -/
def lv6 (cI : ClassId) (h : Nat) (b : Nat → Nat) (v : Nat → Int32) (g : Nat → Nat → Int32) : va_W := [(h, .inr (3, [.int (v 0), .int (v 1), .int (v 2), .int (v 3), .int (v 4), .int (v 5), .int (v 6), .int (v 7), .ref (b 0), .ref (b 1), .ref (b 2), .ref (b 3), .ref (b 4)])), (b 0, .inl (cI, 6, .inl (g 0))), (b 1, .inl (cI, 6, .inl (g 1))), (b 2, .inl (cI, 6, .inl (g 2))), (b 3, .inl (cI, 6, .inl (g 3))), (b 4, .inl (cI, 6, .inl (g 4)))]
def lvs (cI : ClassId) (n : Nat) (ad : Nat → Nat) (bd : Nat → Nat → Nat) (V : Nat → Nat → Int32) (G : Nat → Nat → Nat → Int32) : va_W := (List.range n).flatMap (fun i => lv6 cI (ad i) (bd i) (V i) (G i))
theorem fm_congr {α β : Type} {l : List α} {f g : α → List β} (h : ∀ a ∈ l, f a = g a) : l.flatMap f = l.flatMap g := by
  rw [List.flatMap_def, List.flatMap_def, List.map_congr_left h]
theorem fm_split {β : Type} {n i : Nat} (f : Nat → List β) (hi : i < n) : (List.range n).flatMap f = (List.range i).flatMap f ++ (f i ++ (List.range' (i + 1) (n - i - 1)).flatMap f) := by
  have e1 : List.range n = List.range i ++ (i :: List.range' (i + 1) (n - i - 1)) := by
    rw [List.range_eq_range', List.range_eq_range']
    have e2 : (i :: List.range' (i + 1) (n - i - 1)) = List.range' i (n - i) := by
      rw [show n - i = (n - i - 1) + 1 by omega, List.range'_succ]
      rfl
    rw [e2]
    have e3 := @List.range'_append 0 i (n - i) 1
    rw [show i + (n - i) = n by omega] at e3
    rw [← e3]
    congr 1
    simp
  rw [e1, List.flatMap_append, List.flatMap_cons]
theorem wp_swap {D : va_G} {cl : List vw_C} {H : Heap} {X L1 b L2 : va_W} (h : va_P D cl (X ++ (L1 ++ (b ++ L2))) H) : va_P D cl ((X ++ b) ++ (L1 ++ L2)) H := by
  rw [← List.append_assoc] at h
  have h1 := va_P.swap h
  rw [← List.append_assoc X b L2] at h1
  have h2 := va_P.swap h1
  rw [List.append_assoc] at h2
  exact h2
theorem wp_unswap {D : va_G} {cl : List vw_C} {H : Heap} {X L1 b L2 : va_W} (h : va_P D cl ((X ++ b) ++ (L1 ++ L2)) H) : va_P D cl (X ++ (L1 ++ (b ++ L2))) H := by
  rw [← List.append_assoc (X ++ b)] at h
  have h1 := va_P.swap h
  rw [List.append_assoc X b L2] at h1
  have h2 := va_P.swap h1
  rw [List.append_assoc] at h2
  exact h2
theorem wd_swap {A : Nat → Prop} {X L1 b L2 : va_W} (h : va_D A (X ++ (L1 ++ (b ++ L2)))) : va_D A ((X ++ b) ++ (L1 ++ L2)) := by
  rw [← List.append_assoc] at h
  have h1 := va_D.swap h
  rw [← List.append_assoc X b L2] at h1
  have h2 := va_D.swap h1
  rw [List.append_assoc] at h2
  exact h2
theorem wd_unswap {A : Nat → Prop} {X L1 b L2 : va_W} (h : va_D A ((X ++ b) ++ (L1 ++ L2))) : va_D A (X ++ (L1 ++ (b ++ L2))) := by
  rw [← List.append_assoc (X ++ b)] at h
  have h1 := va_D.swap h
  rw [List.append_assoc X b L2] at h1
  have h2 := va_D.swap h1
  rw [List.append_assoc] at h2
  exact h2
/-- one of many levels, beside the explicit cells; and back again -/
theorem blk_open {D : va_G} {cl : List vw_C} {A : Nat → Prop} {H : Heap} {cI : ClassId} {n : Nat} {ad : Nat → Nat} {bd : Nat → Nat → Nat} {V : Nat → Nat → Int32} {G : Nat → Nat → Nat → Int32} {X : va_W} (hP : va_P D cl (X ++ lvs cI n ad bd V G) H) (hD : va_D A (X ++ lvs cI n ad bd V G)) {i : Nat} (hi : i < n) :
    ∃ pl : va_W, va_P D cl ((X ++ lv6 cI (ad i) (bd i) (V i) (G i)) ++ pl) H ∧ va_D A ((X ++ lv6 cI (ad i) (bd i) (V i) (G i)) ++ pl) ∧
      (∀ (X1 : va_W) (v : Nat → Int32) (g : Nat → Nat → Int32) (H1 : Heap), va_P D cl ((X1 ++ lv6 cI (ad i) (bd i) v g) ++ pl) H1 → va_P D cl (X1 ++ lvs cI n ad bd (va_up V i v) (va_up G i g)) H1) ∧
      (∀ (X1 : va_W) (v : Nat → Int32) (g : Nat → Nat → Int32) (A1 : Nat → Prop), va_D A1 ((X1 ++ lv6 cI (ad i) (bd i) v g) ++ pl) → va_D A1 (X1 ++ lvs cI n ad bd (va_up V i v) (va_up G i g))) := by
  have e0 : lvs cI n ad bd V G = (List.range i).flatMap (fun j => lv6 cI (ad j) (bd j) (V j) (G j)) ++ (lv6 cI (ad i) (bd i) (V i) (G i) ++ (List.range' (i + 1) (n - i - 1)).flatMap (fun j => lv6 cI (ad j) (bd j) (V j) (G j))) := fm_split _ hi
  have e1 : ∀ (v : Nat → Int32) (g : Nat → Nat → Int32), lvs cI n ad bd (va_up V i v) (va_up G i g) = (List.range i).flatMap (fun j => lv6 cI (ad j) (bd j) (V j) (G j)) ++ (lv6 cI (ad i) (bd i) v g ++ (List.range' (i + 1) (n - i - 1)).flatMap (fun j => lv6 cI (ad j) (bd j) (V j) (G j))) := by
    intro v g
    refine (fm_split _ hi).trans ?_
    rw [va_up_self, va_up_self]
    congr 1
    · apply fm_congr
      intro j hj
      have hne : j ≠ i := fun q => by
        rw [List.mem_range] at hj
        omega
      rw [va_up_ne _ _ hne, va_up_ne _ _ hne]
    · congr 1
      apply fm_congr
      intro j hj
      have hne : j ≠ i := fun q => by
        rw [List.mem_range'_1] at hj
        omega
      rw [va_up_ne _ _ hne, va_up_ne _ _ hne]
  rw [e0] at hP hD
  refine ⟨_, wp_swap hP, wd_swap hD, fun X1 v g H1 h => ?_, fun X1 v g A1 h => ?_⟩
  · rw [e1]
    exact wp_unswap h
  · rw [e1]
    exact wd_unswap h
/-- a level that stood as a whole: hour, winds and sounds in their bounds -/
def okL (v : Nat → Int32) : Prop := ∃ h w k : Nat, v 4 = nI h ∧ h ≤ 999 ∧ v 6 = nI w ∧ w ≤ 6 ∧ v 7 = nI k ∧ k ≤ 6
theorem okL_up {V : Nat → Nat → Int32} {v : Nat → Int32} {n i : Nat} (h : ∀ j : Nat, j < n → okL (V j)) (hv : okL v) : ∀ j : Nat, j < n → okL (va_up V i v j) := by
  intro j hj
  by_cases q : j = i
  · rw [q, va_up_self]
    exact hv
  · rw [va_up_ne _ _ q]
    exact h j hj
theorem mmin_nat {a b : Nat} (ha : a < 2 ^ 31) (hb : b < 2 ^ 31) : ∃ u : Nat, u ≤ a ∧ u ≤ b ∧ (if nI b < nI a then nI b else nI a) = nI u := by
  split
  · rename_i h
    exact ⟨b, Nat.le_of_lt ((nI_ltI hb ha).mp h), Nat.le_refl _, rfl⟩
  · rename_i h
    exact ⟨a, Nat.le_refl _, Nat.not_lt.mp (fun q => h ((nI_ltI hb ha).mpr q)), rfl⟩
theorem mmax_nat {a b : Nat} (ha : a < 2 ^ 31) (hb : b < 2 ^ 31) : ∃ u : Nat, a ≤ u ∧ b ≤ u ∧ (if nI a < nI b then nI b else nI a) = nI u := by
  split
  · rename_i h
    exact ⟨b, Nat.le_of_lt ((nI_ltI ha hb).mp h), Nat.le_refl _, rfl⟩
  · rename_i h
    exact ⟨a, Nat.le_refl _, Nat.not_lt.mp (fun q => h ((nI_ltI ha hb).mpr q)), rfl⟩
/-- places i .. i + n - 1 of a row of at most 40 items -/
def hpF (i n : Int32) : Prop := ∃ a b : Nat, i = nI a ∧ n = nI b ∧ a + b ≤ 40
theorem hp_fact {i n len v : Int32} {L : Nat} (h1 : ¬ i < 0) (h2 : ¬ n < 0) (hl : len = nI L) (hL : L ≤ 40) (e : v = len - n) (h3 : ¬ v < i) : hpF i n := by
  obtain ⟨a, ha, rfl⟩ := nI_of h1
  obtain ⟨b, hb, rfl⟩ := nI_of h2
  refine ⟨a, b, rfl, rfl, ?_⟩
  rw [e, hl, Int32.lt_iff_toInt_lt, nI_toInt ha] at h3
  have e1 : (nI L - nI b).toInt = (L : Int) - b := by
    rw [Int32.toInt_sub, nI_toInt (by omega), nI_toInt hb]
    apply Int.bmod_eq_of_le <;> omega
  rw [e1] at h3
  omega
theorem fe_up {fe fn : Nat → Int32} {j n : Nat} (h : ∀ j : Nat, j < 8 → ∃ q : Nat, q ≤ 40 ∧ fe j = nI q) (hj : j < 2 ^ 31) (hn : n ≤ 40) (e : fn = upd fe (nI j).toNatClampNeg (nI n)) : ∀ j : Nat, j < 8 → ∃ q : Nat, q ≤ 40 ∧ fn j = nI q := by
  intro i hi
  rw [e]
  unfold upd
  split
  · exact ⟨n, hn, rfl⟩
  · exact h i hi
/-- the byte at a place of the tape -/
def bAt (fb : Nat → Int32) (z : Nat) (i : Int32) : Int32 := if i < 0 ∨ nI z ≤ i then -1 else fb i.toNatClampNeg
theorem in_mono {x : Int32} {n m : Nat} (h : vp_in x n) (hm : n ≤ m) : vp_in x m := by
  rw [vp_in_iff] at h ⊢
  omega
theorem fm_split2 {β : Type} {n i : Nat} (f : Nat → List β) (hi : i + 1 < n) : (List.range n).flatMap f = (List.range i).flatMap f ++ ((f i ++ f (i + 1)) ++ (List.range' (i + 2) (n - i - 2)).flatMap f) := by
  rw [fm_split f (show i < n by omega), show n - i - 1 = (n - i - 2) + 1 by omega, List.range'_succ, List.flatMap_cons, List.append_assoc (f i)]
/-- two levels side by side of many -/
theorem blk_open2 {D : va_G} {cl : List vw_C} {A : Nat → Prop} {H : Heap} {cI : ClassId} {n : Nat} {ad : Nat → Nat} {bd : Nat → Nat → Nat} {V : Nat → Nat → Int32} {G : Nat → Nat → Nat → Int32} {X : va_W} (hP : va_P D cl (X ++ lvs cI n ad bd V G) H) (hD : va_D A (X ++ lvs cI n ad bd V G)) {i : Nat} (hi : i + 1 < n) :
    ∃ pl : va_W, va_P D cl ((X ++ (lv6 cI (ad i) (bd i) (V i) (G i) ++ lv6 cI (ad (i + 1)) (bd (i + 1)) (V (i + 1)) (G (i + 1)))) ++ pl) H ∧ va_D A ((X ++ (lv6 cI (ad i) (bd i) (V i) (G i) ++ lv6 cI (ad (i + 1)) (bd (i + 1)) (V (i + 1)) (G (i + 1)))) ++ pl) ∧
      (∀ (X1 : va_W) (v : Nat → Int32) (g : Nat → Nat → Int32) (H1 : Heap), va_P D cl ((X1 ++ (lv6 cI (ad i) (bd i) (V i) (G i) ++ lv6 cI (ad (i + 1)) (bd (i + 1)) v g)) ++ pl) H1 → va_P D cl (X1 ++ lvs cI n ad bd (va_up V (i + 1) v) (va_up G (i + 1) g)) H1) ∧
      (∀ (X1 : va_W) (v : Nat → Int32) (g : Nat → Nat → Int32) (A1 : Nat → Prop), va_D A1 ((X1 ++ (lv6 cI (ad i) (bd i) (V i) (G i) ++ lv6 cI (ad (i + 1)) (bd (i + 1)) v g)) ++ pl) → va_D A1 (X1 ++ lvs cI n ad bd (va_up V (i + 1) v) (va_up G (i + 1) g))) := by
  have e0 : lvs cI n ad bd V G = (List.range i).flatMap (fun j => lv6 cI (ad j) (bd j) (V j) (G j)) ++ ((lv6 cI (ad i) (bd i) (V i) (G i) ++ lv6 cI (ad (i + 1)) (bd (i + 1)) (V (i + 1)) (G (i + 1))) ++ (List.range' (i + 2) (n - i - 2)).flatMap (fun j => lv6 cI (ad j) (bd j) (V j) (G j))) := fm_split2 _ hi
  have e1 : ∀ (v : Nat → Int32) (g : Nat → Nat → Int32), lvs cI n ad bd (va_up V (i + 1) v) (va_up G (i + 1) g) = (List.range i).flatMap (fun j => lv6 cI (ad j) (bd j) (V j) (G j)) ++ ((lv6 cI (ad i) (bd i) (V i) (G i) ++ lv6 cI (ad (i + 1)) (bd (i + 1)) v g) ++ (List.range' (i + 2) (n - i - 2)).flatMap (fun j => lv6 cI (ad j) (bd j) (V j) (G j))) := by
    intro v g
    refine (fm_split2 _ hi).trans ?_
    rw [va_up_self, va_up_self, va_up_ne V v (show i ≠ i + 1 by omega), va_up_ne G g (show i ≠ i + 1 by omega)]
    congr 1
    · apply fm_congr
      intro j hj
      have hne : j ≠ i + 1 := fun q => by
        rw [List.mem_range] at hj
        omega
      rw [va_up_ne _ _ hne, va_up_ne _ _ hne]
    · congr 1
      apply fm_congr
      intro j hj
      have hne : j ≠ i + 1 := fun q => by
        rw [List.mem_range'_1] at hj
        omega
      rw [va_up_ne _ _ hne, va_up_ne _ _ hne]
  rw [e0] at hP hD
  refine ⟨_, wp_swap hP, wd_swap hD, fun X1 v g H1 h => ?_, fun X1 v g A1 h => ?_⟩
  · rw [e1]
    exact wp_unswap h
  · rw [e1]
    exact wd_unswap h
theorem len_in {n : Int32} (h1 : ¬ n < 1) (h2 : ¬ 8 < n) : vp_in n 9 := by
  rw [vp_in_iff]
  rw [Int32.lt_iff_toInt_lt] at h1 h2
  have e1 : (1 : Int32).toInt = 1 := rfl
  have e2 : (8 : Int32).toInt = 8 := rfl
  rw [e1] at h1
  rw [e2] at h2
  constructor <;> omega
/-! the tables of the class that nobody writes -/
def st1 (C n : String) (A : Nat → Prop) (U : State) (H : Heap) : Prop := ∃ (t : Nat) (f : Nat → Int32), va_Z C n "[I" (.ref t) A U H ∧ va_T .int t 6 (fun j => .int (f j)) A U H
def stt (A : Nat → Prop) (U : State) (H : Heap) : Prop := st1 "MillTalk" "NEXT_KIND" A U H ∧ st1 "MillTalk$Asks" "SIZE_BODIES" A U H ∧ st1 "MillTalk$Asks" "MARK_BODIES" A U H ∧ va_Nw (.fieldLinkNest RX1 53 "MillTalk" "NEXT_KIND" "[I" "MillTalk") U
theorem st1_moved {C n : String} {A : Nat → Prop} {u U : State} {H : Heap} (h : u.vm.Alike U.vm) (hs : st1 C n A u H) : st1 C n A U H := by
  obtain ⟨t, f, h1, h2⟩ := hs
  exact ⟨t, f, h1.moved h, h2.moved h⟩
theorem st1_kept {C n : String} {A : Nat → Prop} {U : State} {H H1 : Heap} (hs : st1 C n A U H) (hq : ∀ a : Nat, a < H.size → ¬ A a → H1[a]? = H[a]?) : st1 C n A U H1 := by
  obtain ⟨t, f, h1, h2⟩ := hs
  exact ⟨t, f, h1.kept hq, h2.kept hq⟩
theorem st1_narrow {C n : String} {A B : Nat → Prop} {U : State} {H : Heap} (hs : st1 C n A U H) (hAB : ∀ q, B q → A q) : st1 C n B U H := by
  obtain ⟨t, f, h1, h2⟩ := hs
  exact ⟨t, f, h1.narrow hAB, h2.narrow hAB⟩
theorem stt_warm {A : Nat → Prop} {s U : State} {H : Heap} (hW : s.WarmedH U.vm) (h : stt A s H) : stt A U H := ⟨st1_moved hW.alike h.1, st1_moved hW.alike h.2.1, st1_moved hW.alike h.2.2.1, va_Nw.warmF hW h.2.2.2⟩
theorem stt_same {A : Nat → Prop} {u U : State} {H : Heap} (e : u.vm = U.vm) (h : stt A u H) : stt A U H := by
  have h0 : u.vm.Alike U.vm := by rw [e]; exact Vm.Alike.refl _
  exact ⟨st1_moved h0 h.1, st1_moved h0 h.2.1, st1_moved h0 h.2.2.1, va_Nw.same rfl e h.2.2.2⟩
theorem stt_kept {A : Nat → Prop} {U : State} {H H1 : Heap} (h : stt A U H) (hq : ∀ a : Nat, a < H.size → ¬ A a → H1[a]? = H[a]?) : stt A U H1 := ⟨st1_kept h.1 hq, st1_kept h.2.1 hq, st1_kept h.2.2.1 hq, h.2.2.2⟩
theorem stt_narrow {A B : Nat → Prop} {U : State} {H : Heap} (h : stt A U H) (hAB : ∀ q, B q → A q) : stt B U H := ⟨st1_narrow h.1 hAB, st1_narrow h.2.1 hAB, st1_narrow h.2.2.1 hAB, h.2.2.2⟩
theorem in_6 {x : Int32} (h1 : ¬ x ≤ 0) (h2 : ¬ 6 ≤ x) : vp_in x 6 := by
  rw [vp_in_iff]
  rw [Int32.le_iff_toInt_le] at h1 h2
  have e1 : (0 : Int32).toInt = 0 := rfl
  have e2 : (6 : Int32).toInt = 6 := rfl
  rw [e1] at h1
  rw [e2] at h2
  constructor <;> omega
theorem in_6b {x : Int32} (h1 : ¬ x < 0) (h2 : ¬ 6 ≤ x) : vp_in x 6 := in_of h1 h2 (by decide)
