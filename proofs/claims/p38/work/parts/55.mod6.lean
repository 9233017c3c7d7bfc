theorem lf_X8_count_1 {mt : Int32} {ma : Nat} {fs : Nat → Int32} {w9 : Nat} {k9 : Nat} {h9 : Nat} {fz : Nat → Int32} {fn_ : Nat → Int32} {w_6 : Int32} {ii : Nat} {v_14 : Int32} {v_16 : Int32} (hM : okM fs w9 k9 h9) (hT : ¬ mt = 0 → 1 ≤ k9) (h999 : h9 ≤ 999) (hT0 : mt = 0 → fs 0 = 0 ∧ ma = 0) (hsz9 : ∀ j : Nat, j < 8 → fz j = -1 ∨ ∃ q : Nat, q ≤ 40 ∧ fz j = nI q) (hln9 : ∀ j : Nat, j < 8 → ¬ fz j = -1 → ¬ fn_ j = -1) (hii : ii < 8) (haf_0 : (w_6 = prR (mbl fn_ fz) ii)) (e_14 : v_14 = fz ii) (c_15 : v_14 < 0) (e_16 : v_16 = (w_6 + 0)) : v_16 = prR (mbl fn_ fz) (ii + 1) := by
  have h8 := prR_M (fn := fn_) hsz9 hln9 ii (by omega)
  simp only [prR]
  grind
theorem lf_X8_count_2 {mt : Int32} {ma : Nat} {fs : Nat → Int32} {w9 : Nat} {k9 : Nat} {h9 : Nat} {fz : Nat → Int32} {fn_ : Nat → Int32} {w_6 : Int32} {ii : Nat} {v_14 : Int32} {v_17 : Int32} (hM : okM fs w9 k9 h9) (hT : ¬ mt = 0 → 1 ≤ k9) (h999 : h9 ≤ 999) (hT0 : mt = 0 → fs 0 = 0 ∧ ma = 0) (hsz9 : ∀ j : Nat, j < 8 → fz j = -1 ∨ ∃ q : Nat, q ≤ 40 ∧ fz j = nI q) (hln9 : ∀ j : Nat, j < 8 → ¬ fz j = -1 → ¬ fn_ j = -1) (hii : ii < 8) (haf_0 : (w_6 = prR (mbl fn_ fz) ii)) (e_14 : v_14 = fz ii) (c_15 : ¬ (v_14 < 0)) (e_17 : v_17 = (w_6 + 1)) : v_17 = prR (mbl fn_ fz) (ii + 1) := by
  have h8 := prR_M (fn := fn_) hsz9 hln9 ii (by omega)
  simp only [prR]
  grind
theorem lf_X8_count_3 {mt : Int32} {mz : Nat} {ma : Nat} {fs : Nat → Int32} {w9 : Nat} {k9 : Nat} {h9 : Nat} {fz : Nat → Int32} {fn_ : Nat → Int32} {w_6 : Int32} (hM : okM fs w9 k9 h9) (hT : ¬ mt = 0 → 1 ≤ k9) (h999 : h9 ≤ 999) (hT0 : mt = 0 → fs 0 = 0 ∧ ma = 0) (hsz9 : ∀ j : Nat, j < 8 → fz j = -1 ∨ ∃ q : Nat, q ≤ 40 ∧ fz j = nI q) (hln9 : ∀ j : Nat, j < 8 → ¬ fz j = -1 → ¬ fn_ j = -1) (haf_0 : (w_6 = prR (mbl fn_ fz) 8)) : w_6 = (a_count (mbl fn_ fz) (m38 fs) ma mz (0 : Int32)) := by
  have g0 := @guS_M fs w9 k9 h9 hM
  have g1 := @th_M fs w9 k9 h9 hM
  have g2 := hM.1
  have g3 := hM.2.1
  have g4 := hM.2.2.1
  have g5 := hM.2.2.2.1
  have g6 := hM.2.2.2.2.1
  simp only [a_count, mm0, mm1, mm2, mm3, mm4, mm5, mm6, mm7] at *
  grind [nI_clamp, m38_at, sB_ok]
theorem lf_X8_count_4 {mt : Int32} {mz : Nat} {ma : Nat} {fs : Nat → Int32} {w9 : Nat} {k9 : Nat} {h9 : Nat} {fz : Nat → Int32} {fn_ : Nat → Int32} {w_6 : Int32} (hM : okM fs w9 k9 h9) (hT : ¬ mt = 0 → 1 ≤ k9) (h999 : h9 ≤ 999) (hT0 : mt = 0 → fs 0 = 0 ∧ ma = 0) (hsz9 : ∀ j : Nat, j < 8 → fz j = -1 ∨ ∃ q : Nat, q ≤ 40 ∧ fz j = nI q) (hln9 : ∀ j : Nat, j < 8 → ¬ fz j = -1 → ¬ fn_ j = -1) (haf_0 : (w_6 = prR (mbl fn_ fz) 8)) (k_19 : ¬ (1 : Int32) = 0) : (nI k9) = (a_count (mbl fn_ fz) (m38 fs) ma mz (1 : Int32)) := by
  have g0 := @guS_M fs w9 k9 h9 hM
  have g1 := @th_M fs w9 k9 h9 hM
  have g2 := hM.1
  have g3 := hM.2.1
  have g4 := hM.2.2.1
  have g5 := hM.2.2.2.1
  have g6 := hM.2.2.2.2.1
  simp only [a_count, mm0, mm1, mm2, mm3, mm4, mm5, mm6, mm7] at *
  grind [nI_clamp, m38_at, sB_ok]
theorem lf_X8_count_5 {mt : Int32} {mz : Nat} {ma : Nat} {fs : Nat → Int32} {w9 : Nat} {k9 : Nat} {h9 : Nat} {fz : Nat → Int32} {fn_ : Nat → Int32} {w_6 : Int32} (hM : okM fs w9 k9 h9) (hT : ¬ mt = 0 → 1 ≤ k9) (h999 : h9 ≤ 999) (hT0 : mt = 0 → fs 0 = 0 ∧ ma = 0) (hsz9 : ∀ j : Nat, j < 8 → fz j = -1 ∨ ∃ q : Nat, q ≤ 40 ∧ fz j = nI q) (hln9 : ∀ j : Nat, j < 8 → ¬ fz j = -1 → ¬ fn_ j = -1) (haf_0 : (w_6 = prR (mbl fn_ fz) 8)) (k_19 : ¬ (2 : Int32) = 0) (k_20 : ¬ (2 : Int32) = 1) : (nI w9) = (a_count (mbl fn_ fz) (m38 fs) ma mz (2 : Int32)) := by
  have g0 := @guS_M fs w9 k9 h9 hM
  have g1 := @th_M fs w9 k9 h9 hM
  have g2 := hM.1
  have g3 := hM.2.1
  have g4 := hM.2.2.1
  have g5 := hM.2.2.2.1
  have g6 := hM.2.2.2.2.1
  simp only [a_count, mm0, mm1, mm2, mm3, mm4, mm5, mm6, mm7] at *
  grind [nI_clamp, m38_at, sB_ok]
theorem lf_X8_count_6 {mt : Int32} {mz : Nat} {ma : Nat} {fs : Nat → Int32} {w9 : Nat} {k9 : Nat} {h9 : Nat} {fz : Nat → Int32} {fn_ : Nat → Int32} {w_6 : Int32} (hM : okM fs w9 k9 h9) (hT : ¬ mt = 0 → 1 ≤ k9) (h999 : h9 ≤ 999) (hT0 : mt = 0 → fs 0 = 0 ∧ ma = 0) (hsz9 : ∀ j : Nat, j < 8 → fz j = -1 ∨ ∃ q : Nat, q ≤ 40 ∧ fz j = nI q) (hln9 : ∀ j : Nat, j < 8 → ¬ fz j = -1 → ¬ fn_ j = -1) (haf_0 : (w_6 = prR (mbl fn_ fz) 8)) (k_19 : ¬ (3 : Int32) = 0) (k_20 : ¬ (3 : Int32) = 1) (k_22 : ¬ (3 : Int32) = 2) : (nI h9) = (a_count (mbl fn_ fz) (m38 fs) ma mz (3 : Int32)) := by
  have g0 := @guS_M fs w9 k9 h9 hM
  have g1 := @th_M fs w9 k9 h9 hM
  have g2 := hM.1
  have g3 := hM.2.1
  have g4 := hM.2.2.1
  have g5 := hM.2.2.2.1
  have g6 := hM.2.2.2.2.1
  simp only [a_count, mm0, mm1, mm2, mm3, mm4, mm5, mm6, mm7] at *
  grind [nI_clamp, m38_at, sB_ok]
theorem lf_X8_count_7 {mt : Int32} {mz : Nat} {ma : Nat} {fs : Nat → Int32} {w9 : Nat} {k9 : Nat} {h9 : Nat} {fz : Nat → Int32} {fn_ : Nat → Int32} {w_6 : Int32} {v_27 : Int32} (hM : okM fs w9 k9 h9) (hT : ¬ mt = 0 → 1 ≤ k9) (h999 : h9 ≤ 999) (hT0 : mt = 0 → fs 0 = 0 ∧ ma = 0) (hsz9 : ∀ j : Nat, j < 8 → fz j = -1 ∨ ∃ q : Nat, q ≤ 40 ∧ fz j = nI q) (hln9 : ∀ j : Nat, j < 8 → ¬ fz j = -1 → ¬ fn_ j = -1) (haf_0 : (w_6 = prR (mbl fn_ fz) 8)) (k_19 : ¬ (4 : Int32) = 0) (k_20 : ¬ (4 : Int32) = 1) (k_22 : ¬ (4 : Int32) = 2) (k_24 : ¬ (4 : Int32) = 3) (e_27 : v_27 = fs 7) : v_27 = (a_count (mbl fn_ fz) (m38 fs) ma mz (4 : Int32)) := by
  have g0 := @guS_M fs w9 k9 h9 hM
  have g1 := @th_M fs w9 k9 h9 hM
  have g2 := hM.1
  have g3 := hM.2.1
  have g4 := hM.2.2.1
  have g5 := hM.2.2.2.1
  have g6 := hM.2.2.2.2.1
  simp only [a_count, mm0, mm1, mm2, mm3, mm4, mm5, mm6, mm7] at *
  grind [nI_clamp, m38_at, sB_ok]
theorem lf_X8_count_8 {mt : Int32} {mz : Nat} {ma : Nat} {fs : Nat → Int32} {w9 : Nat} {k9 : Nat} {h9 : Nat} {fz : Nat → Int32} {fn_ : Nat → Int32} {w_6 : Int32} {j_29 : Nat} {r_30 : Int32} (hM : okM fs w9 k9 h9) (hT : ¬ mt = 0 → 1 ≤ k9) (h999 : h9 ≤ 999) (hT0 : mt = 0 → fs 0 = 0 ∧ ma = 0) (hsz9 : ∀ j : Nat, j < 8 → fz j = -1 ∨ ∃ q : Nat, q ≤ 40 ∧ fz j = nI q) (hln9 : ∀ j : Nat, j < 8 → ¬ fz j = -1 → ¬ fn_ j = -1) (haf_0 : (w_6 = prR (mbl fn_ fz) 8)) (k_19 : ¬ (5 : Int32) = 0) (k_20 : ¬ (5 : Int32) = 1) (k_22 : ¬ (5 : Int32) = 2) (k_24 : ¬ (5 : Int32) = 3) (k_26 : ¬ (5 : Int32) = 4) (hz_29_0 : j_29 ≤ 63) (hz_29_1 : nI j_29 = thR (fun s => fs (26 + s)) 0 k9) (h_30 : r_30 = (nI (onN j_29))) : r_30 = (a_count (mbl fn_ fz) (m38 fs) ma mz (5 : Int32)) := by
  have g0 := @guS_M fs w9 k9 h9 hM
  have g1 := @th_M fs w9 k9 h9 hM
  have g2 := hM.1
  have g3 := hM.2.1
  have g4 := hM.2.2.1
  have g5 := hM.2.2.2.1
  have g6 := hM.2.2.2.2.1
  simp only [a_count, mm0, mm1, mm2, mm3, mm4, mm5, mm6, mm7] at *
  grind [nI_clamp, m38_at, sB_ok]
theorem lf_X8_count_9 {mt : Int32} {mz : Nat} {ma : Nat} {fs : Nat → Int32} {w9 : Nat} {k9 : Nat} {h9 : Nat} {fz : Nat → Int32} {fn_ : Nat → Int32} {w_6 : Int32} (hM : okM fs w9 k9 h9) (hT : ¬ mt = 0 → 1 ≤ k9) (h999 : h9 ≤ 999) (hT0 : mt = 0 → fs 0 = 0 ∧ ma = 0) (hsz9 : ∀ j : Nat, j < 8 → fz j = -1 ∨ ∃ q : Nat, q ≤ 40 ∧ fz j = nI q) (hln9 : ∀ j : Nat, j < 8 → ¬ fz j = -1 → ¬ fn_ j = -1) (haf_0 : (w_6 = prR (mbl fn_ fz) 8)) (k_19 : ¬ (6 : Int32) = 0) (k_20 : ¬ (6 : Int32) = 1) (k_22 : ¬ (6 : Int32) = 2) (k_24 : ¬ (6 : Int32) = 3) (k_26 : ¬ (6 : Int32) = 4) (k_28 : ¬ (6 : Int32) = 5) : (nI ma) = (a_count (mbl fn_ fz) (m38 fs) ma mz (6 : Int32)) := by
  have g0 := @guS_M fs w9 k9 h9 hM
  have g1 := @th_M fs w9 k9 h9 hM
  have g2 := hM.1
  have g3 := hM.2.1
  have g4 := hM.2.2.1
  have g5 := hM.2.2.2.1
  have g6 := hM.2.2.2.2.1
  simp only [a_count, mm0, mm1, mm2, mm3, mm4, mm5, mm6, mm7] at *
  grind [nI_clamp, m38_at, sB_ok]
theorem lf_X8_count_10 {mt : Int32} {mz : Nat} {ma : Nat} {fs : Nat → Int32} {w9 : Nat} {k9 : Nat} {h9 : Nat} {fz : Nat → Int32} {fn_ : Nat → Int32} {w_6 : Int32} (hM : okM fs w9 k9 h9) (hT : ¬ mt = 0 → 1 ≤ k9) (h999 : h9 ≤ 999) (hT0 : mt = 0 → fs 0 = 0 ∧ ma = 0) (hsz9 : ∀ j : Nat, j < 8 → fz j = -1 ∨ ∃ q : Nat, q ≤ 40 ∧ fz j = nI q) (hln9 : ∀ j : Nat, j < 8 → ¬ fz j = -1 → ¬ fn_ j = -1) (haf_0 : (w_6 = prR (mbl fn_ fz) 8)) (k_19 : ¬ (7 : Int32) = 0) (k_20 : ¬ (7 : Int32) = 1) (k_22 : ¬ (7 : Int32) = 2) (k_24 : ¬ (7 : Int32) = 3) (k_26 : ¬ (7 : Int32) = 4) (k_28 : ¬ (7 : Int32) = 5) (k_31 : ¬ (7 : Int32) = 6) : (nI mz) = (a_count (mbl fn_ fz) (m38 fs) ma mz (7 : Int32)) := by
  have g0 := @guS_M fs w9 k9 h9 hM
  have g1 := @th_M fs w9 k9 h9 hM
  have g2 := hM.1
  have g3 := hM.2.1
  have g4 := hM.2.2.1
  have g5 := hM.2.2.2.1
  have g6 := hM.2.2.2.2.1
  simp only [a_count, mm0, mm1, mm2, mm3, mm4, mm5, mm6, mm7] at *
  grind [nI_clamp, m38_at, sB_ok]
theorem lf_X8_count_11 {mt : Int32} {mz : Nat} {ma : Nat} {fs : Nat → Int32} {w9 : Nat} {k9 : Nat} {h9 : Nat} {fz : Nat → Int32} {fn_ : Nat → Int32} {a0 : Int32} {w_6 : Int32} (hM : okM fs w9 k9 h9) (hT : ¬ mt = 0 → 1 ≤ k9) (h999 : h9 ≤ 999) (hT0 : mt = 0 → fs 0 = 0 ∧ ma = 0) (hsz9 : ∀ j : Nat, j < 8 → fz j = -1 ∨ ∃ q : Nat, q ≤ 40 ∧ fz j = nI q) (hln9 : ∀ j : Nat, j < 8 → ¬ fz j = -1 → ¬ fn_ j = -1) (haf_0 : (w_6 = prR (mbl fn_ fz) 8)) (k_19 : ¬ a0 = 0) (k_20 : ¬ a0 = 1) (k_22 : ¬ a0 = 2) (k_24 : ¬ a0 = 3) (k_26 : ¬ a0 = 4) (k_28 : ¬ a0 = 5) (k_31 : ¬ a0 = 6) (k_32 : ¬ a0 = 7) : (-1000001) = (a_count (mbl fn_ fz) (m38 fs) ma mz a0) := by
  have g0 := @guS_M fs w9 k9 h9 hM
  have g1 := @th_M fs w9 k9 h9 hM
  have g2 := hM.1
  have g3 := hM.2.1
  have g4 := hM.2.2.1
  have g5 := hM.2.2.2.1
  have g6 := hM.2.2.2.2.1
  simp only [a_count, mm0, mm1, mm2, mm3, mm4, mm5, mm6, mm7] at *
  grind [nI_clamp, m38_at, sB_ok]
set_option maxHeartbeats 4000000 in
set_option maxRecDepth 100000 in
theorem r_X8_count (l : Launch) (dC : Nat → ClassId) (dI : Nat → Nat → Nat) (cI cZ cL cJ : ClassId) (mo : Nat) (m_la : Nat) (m_sz : Nat) (m_it : Nat) (m_st : Nat) (m_mv : Nat) (m_tp : Nat) (m_rd : Nat) (m_ac : Nat) (m_as : Nat) (m_wo : Nat) (m_ik : Nat) (m_ke : Nat) (m_tr : Nat) (ms : Int32) (mt : Int32) (ml : Int32) (mk : Int32) (mv : Int32) (mb : Int32) (mw : Int32) (mz : Nat) (mp : Nat) (ma : Nat) (mx : Nat) (fs : Nat → Int32) (w9 : Nat) (k9 : Nat) (h9 : Nat) (fz : Nat → Int32) (fn_ : Nat → Int32) (a0 : Int32) (hM : okM fs w9 k9 h9) (hT : ¬ mt = 0 → 1 ≤ k9) (h999 : h9 ≤ 999) (hT0 : mt = 0 → fs 0 = 0 ∧ ma = 0) (hsz9 : ∀ j : Nat, j < 8 → fz j = -1 ∨ ∃ q : Nat, q ≤ 40 ∧ fz j = nI q) (hln9 : ∀ j : Nat, j < 8 → ¬ fz j = -1 → ¬ fn_ j = -1) : Met l yX8_count wsX8_count ({ frames := 1, cells := 0, slots := 0, locals := 23 }) (va_Pc [.ref mo, .int a0] (fun U => va_P (dC, dI) vwCl [(xo_8_rrriirrriiiiiiirrirrrrri mo m_la m_sz m_it ms mt m_st m_mv m_tp (nI mz) ml (nI mp) mk mv mb mw m_rd m_ac (nI ma) m_as m_wo m_ik m_ke m_tr (nI mx)), (xI m_st cI 38 fs), (xI m_sz cI 8 fz), (xI m_la cI 8 fn_)] U.heap ∧ va_K (dC, dI) vwCl [(cI, .int), (cZ, .boolean), (cL, .object RX3), (cJ, .array .int)] U)) (vp_Si (fun r => r = (a_count (mbl fn_ fz) (m38 fs) ma mz a0))) 0 0 (fun _ => False) := by
  refine Met.ofW (cc := cX8_count) (maxL := 4) (ret := (some .int)) (by decide) rfl ?_
  intro p e s m args below meth c s₁ B hml hv
  obtain ⟨rfl, hP, hK⟩ := hv
  have hx := B.exec
  have hb := B.bytes
  have hr := B.returns
  have hts := atoms_spec (ws := wsX8_count) B.pre
  have hown : s.vm.findClass RX8 = some m.cls := findClass_of_methodNamed B.named
  have hlocks := B.notSynchronized
  have hP : va_P (dC, dI) vwCl [(xo_8_rrriirrriiiiiiirrirrrrri mo m_la m_sz m_it ms mt m_st m_mv m_tp (nI mz) ml (nI mp) mk mv mb mw m_rd m_ac (nI ma) m_as m_wo m_ik m_ke m_tr (nI mx)), (xI m_st cI 38 fs), (xI m_sz cI 8 fz), (xI m_la cI 8 fn_)] s.heap := hP
  have hl := lv_entry ([.ref mo, .int a0]) (n := 4) (Nat.le_of_ble_eq_true rfl)
  rw [lg_entry_eq]
  generalize (lg_sl ([.ref mo, .int a0]) ++ List.replicate (4 - (lg_sl ([.ref mo, .int a0])).length) Slot.unset).toArray = ls at hl ⊢
  have hl : lv_has ls 4 [(0, .ref mo), (1, .int a0)] := hl
  have hk6 := hM.2.2.2.2.1
  have hw6 := hM.2.2.2.1
  refine lv_iconst (v := 0) hx hb dX8_count_0 (by decide) ?_
  refine lv_istore_n (lv' := [(2, .int 0), (0, .ref mo), (1, .int a0)]) hx hb dX8_count_1 rfl hl (by decide) rfl (fun ls hl => ?_)
  refine lv_iconst (v := 0) hx hb dX8_count_2 (by decide) ?_
  refine lv_istore_n (lv' := [(3, .int 0), (2, .int 0), (0, .ref mo), (1, .int a0)]) hx hb dX8_count_3 rfl hl (by decide) rfl (fun ls hl => ?_)
  refine lp_go (σ := (Int32)) (fun ii (st : (Int32)) H locs ls => match st with | w_6 => lv_has ls 4 [(3, .int (nI ii)), (2, .int w_6), (0, .ref mo), (1, .int a0)] ∧ H = s.heap ∧ locs = [] ∧ (w_6 = prR (mbl fn_ fz) ii)) 8 ?_ ?_ 0 (by omega) (0) ⟨lv_sub hl [0, 1, 2, 3] rfl, rfl, rfl, rfl⟩
  · rintro ii w_6 H locs ls hii ⟨hl, rfl, rfl, haf_0⟩ ih
    refine lv_iload_n hx hb dX8_count_4 rfl (lv_at hl 0 rfl) ?_
    refine lv_bipush (v := 8) hx hb dX8_count_5 (by decide) ?_
    refine lv_icmp_ge (tgt := 33) hx hb dX8_count_7 (by decide) (fun c_ => absurd c_ (fun q_ => absurd ((nI_leI (a := 8) (b := ii) (by omega) (by omega)).mp q_) (by omega))) (fun _ => ?_)
    refine lv_iload_n hx hb dX8_count_10 rfl (lv_at hl 1 rfl) ?_
    refine lv_aload_n hx hb dX8_count_11 rfl (lv_at hl 2 rfl) ?_
    refine va_get (D := (dC, dI)) (ci := 8) (v := .ref m_sz) (C := RX8) (T := TX8) (N := 24) hx hb hts i_X8_count_X8 hown hK hP 0 rfl rfl 1 (by decide) (hts _ mx_X8_count_1) (fun _ h9 => h9) rfl dX8_count_12 ?_
    refine lv_iload_n hx hb dX8_count_15 rfl (lv_at hl 0 rfl) ?_
    refine va_iald hx hb hK hP 2 0 rfl rfl (vp_in_nI (by omega) (by omega)) dX8_count_16 ?_
    refine lv_topi (fun v_14 e_14 => ?_)
    have e_14 : v_14 = fz ii := e_14.trans (congrArg fz (nI_clamp (by omega)))
    refine lv_if_lt (tgt := 24) hx hb dX8_count_17 (by decide) (fun c_15 => ?_) (fun c_15 => ?_)
    · skip
      refine lv_iconst (v := 0) hx hb dX8_count_24 (by decide) ?_
      refine lv_iadd hx hb dX8_count_25 ?_
      refine lv_topi (fun v_16 e_16 => ?_)
      refine lv_istore_n (lv' := [(2, .int v_16), (3, .int (nI ii)), (0, .ref mo), (1, .int a0)]) hx hb dX8_count_26 rfl hl (by decide) rfl (fun ls hl => ?_)
      refine lv_iinc (v := (nI (ii + 1))) (lv' := [(3, .int (nI (ii + 1))), (2, .int v_16), (0, .ref mo), (1, .int a0)]) hx hb dX8_count_27 hl (k := 1) rfl (nI_add ii 1) (by decide) rfl (fun ls hl => ?_)
      refine lv_goto (tgt := 4) hx hb dX8_count_30 (by decide) ?_
      exact ih (v_16) _ _ _ ⟨lv_sub hl [0, 1, 2, 3] rfl, rfl, rfl, (lf_X8_count_1 hM hT h999 hT0 hsz9 hln9 hii haf_0 e_14 c_15 e_16)⟩
    · skip
      refine lv_iconst (v := 1) hx hb dX8_count_20 (by decide) ?_
      refine lv_goto (tgt := 25) hx hb dX8_count_21 (by decide) ?_
      refine lv_iadd hx hb dX8_count_25 ?_
      refine lv_topi (fun v_17 e_17 => ?_)
      refine lv_istore_n (lv' := [(2, .int v_17), (3, .int (nI ii)), (0, .ref mo), (1, .int a0)]) hx hb dX8_count_26 rfl hl (by decide) rfl (fun ls hl => ?_)
      refine lv_iinc (v := (nI (ii + 1))) (lv' := [(3, .int (nI (ii + 1))), (2, .int v_17), (0, .ref mo), (1, .int a0)]) hx hb dX8_count_27 hl (k := 1) rfl (nI_add ii 1) (by decide) rfl (fun ls hl => ?_)
      refine lv_goto (tgt := 4) hx hb dX8_count_30 (by decide) ?_
      exact ih (v_17) _ _ _ ⟨lv_sub hl [0, 1, 2, 3] rfl, rfl, rfl, (lf_X8_count_2 hM hT h999 hT0 hsz9 hln9 hii haf_0 e_14 c_15 e_17)⟩
  · rintro w_6 H locs ls ⟨hl, rfl, rfl, haf_0⟩
    refine lv_iload_n hx hb dX8_count_4 rfl (lv_at hl 0 rfl) ?_
    refine lv_bipush (v := 8) hx hb dX8_count_5 (by decide) ?_
    refine lv_icmp_ge (tgt := 33) hx hb dX8_count_7 (by decide) (fun _ => ?_) (fun c_ => absurd ((nI_leI (a := 8) (b := 8) (by omega) (by omega)).mpr (by omega)) c_)
    refine lv_iload_n hx hb dX8_count_33 rfl (lv_at hl 3 rfl) ?_
    by_cases k_19 : a0 = 0
    · subst k_19
      refine lv_tableIn (off := 46) (tgt := 80) hx hb dX8_count_34 (by decide) (by decide) (by decide) (by decide) ?_
      refine lv_iload_n hx hb dX8_count_80 rfl (lv_at hl 1 rfl) ?_
      exact W.iret (v := w_6) hx hb hr (fun t ht hW => ⟨w_6, rfl, (lf_X8_count_3 hM hT h999 hT0 hsz9 hln9 haf_0), ht⟩) (fun _ h => by cases h) dX8_count_81
    by_cases k_20 : a0 = 1
    · subst k_20
      refine lv_tableIn (off := 48) (tgt := 82) hx hb dX8_count_34 (by decide) (by decide) (by decide) (by decide) ?_
      refine lv_aload_n hx hb dX8_count_82 rfl (lv_at hl 2 rfl) ?_
      refine va_get (D := (dC, dI)) (ci := 8) (v := .ref m_st) (C := RX8) (T := TX8) (N := 24) hx hb hts i_X8_count_X8 hown hK hP 0 rfl rfl 5 (by decide) (hts _ mx_X8_count_2) (fun _ h9 => h9) rfl dX8_count_83 ?_
      refine lv_iconst (v := 4) hx hb dX8_count_86 (by decide) ?_
      refine va_iald hx hb hK hP 1 0 rfl rfl (by unfold vp_in; decide) dX8_count_87 ?_
      refine lv_topi (fun v_21 e_21 => ?_)
      obtain rfl : v_21 = (nI k9) := (e_21).trans hM.2.1
      exact W.iret (v := (nI k9)) hx hb hr (fun t ht hW => ⟨(nI k9), rfl, (lf_X8_count_4 hM hT h999 hT0 hsz9 hln9 haf_0 k_19), ht⟩) (fun _ h => by cases h) dX8_count_88
    by_cases k_22 : a0 = 2
    · subst k_22
      refine lv_tableIn (off := 55) (tgt := 89) hx hb dX8_count_34 (by decide) (by decide) (by decide) (by decide) ?_
      refine lv_aload_n hx hb dX8_count_89 rfl (lv_at hl 2 rfl) ?_
      refine va_get (D := (dC, dI)) (ci := 8) (v := .ref m_st) (C := RX8) (T := TX8) (N := 24) hx hb hts i_X8_count_X8 hown hK hP 0 rfl rfl 5 (by decide) (hts _ mx_X8_count_2) (fun _ h9 => h9) rfl dX8_count_90 ?_
      refine lv_iconst (v := 3) hx hb dX8_count_93 (by decide) ?_
      refine va_iald hx hb hK hP 1 0 rfl rfl (by unfold vp_in; decide) dX8_count_94 ?_
      refine lv_topi (fun v_23 e_23 => ?_)
      obtain rfl : v_23 = (nI w9) := (e_23).trans hM.1
      exact W.iret (v := (nI w9)) hx hb hr (fun t ht hW => ⟨(nI w9), rfl, (lf_X8_count_5 hM hT h999 hT0 hsz9 hln9 haf_0 k_19 k_20), ht⟩) (fun _ h => by cases h) dX8_count_95
    by_cases k_24 : a0 = 3
    · subst k_24
      refine lv_tableIn (off := 62) (tgt := 96) hx hb dX8_count_34 (by decide) (by decide) (by decide) (by decide) ?_
      refine lv_aload_n hx hb dX8_count_96 rfl (lv_at hl 2 rfl) ?_
      refine va_get (D := (dC, dI)) (ci := 8) (v := .ref m_st) (C := RX8) (T := TX8) (N := 24) hx hb hts i_X8_count_X8 hown hK hP 0 rfl rfl 5 (by decide) (hts _ mx_X8_count_2) (fun _ h9 => h9) rfl dX8_count_97 ?_
      refine lv_iconst (v := 5) hx hb dX8_count_100 (by decide) ?_
      refine va_iald hx hb hK hP 1 0 rfl rfl (by unfold vp_in; decide) dX8_count_101 ?_
      refine lv_topi (fun v_25 e_25 => ?_)
      obtain rfl : v_25 = (nI h9) := (e_25).trans hM.2.2.1
      exact W.iret (v := (nI h9)) hx hb hr (fun t ht hW => ⟨(nI h9), rfl, (lf_X8_count_6 hM hT h999 hT0 hsz9 hln9 haf_0 k_19 k_20 k_22), ht⟩) (fun _ h => by cases h) dX8_count_102
    by_cases k_26 : a0 = 4
    · subst k_26
      refine lv_tableIn (off := 69) (tgt := 103) hx hb dX8_count_34 (by decide) (by decide) (by decide) (by decide) ?_
      refine lv_aload_n hx hb dX8_count_103 rfl (lv_at hl 2 rfl) ?_
      refine va_get (D := (dC, dI)) (ci := 8) (v := .ref m_st) (C := RX8) (T := TX8) (N := 24) hx hb hts i_X8_count_X8 hown hK hP 0 rfl rfl 5 (by decide) (hts _ mx_X8_count_2) (fun _ h9 => h9) rfl dX8_count_104 ?_
      refine lv_bipush (v := 7) hx hb dX8_count_107 (by decide) ?_
      refine va_iald hx hb hK hP 1 0 rfl rfl (by unfold vp_in; decide) dX8_count_109 ?_
      refine lv_topi (fun v_27 e_27 => ?_)
      have e_27 : v_27 = fs 7 := e_27
      exact W.iret (v := v_27) hx hb hr (fun t ht hW => ⟨v_27, rfl, (lf_X8_count_7 hM hT h999 hT0 hsz9 hln9 haf_0 k_19 k_20 k_22 k_24 e_27), ht⟩) (fun _ h => by cases h) dX8_count_110
    by_cases k_28 : a0 = 5
    · subst k_28
      refine lv_tableIn (off := 77) (tgt := 111) hx hb dX8_count_34 (by decide) (by decide) (by decide) (by decide) ?_
      refine lv_aload_n hx hb dX8_count_111 rfl (lv_at hl 2 rfl) ?_
      refine lv_iconst (v := 0) hx hb dX8_count_112 (by decide) ?_
      have hPc_29 := hP.sub (ws' := [(xo_8_rrriirrriiiiiiirrirrrrri mo m_la m_sz m_it ms mt m_st m_mv m_tp (nI mz) ml (nI mp) mk mv mb mw m_rd m_ac (nI ma) m_as m_wo m_ik m_ke m_tr (nI mx)), (xI m_st cI 38 fs)]) [0, 1] rfl
      refine vp_callSi (W.runV (As := [.int 0]) (rest := []) ⟨hx, hb, hml, hown, hts⟩ (r_X8_those l dC dI cI cZ cL cJ mo m_la m_sz m_it m_st m_mv m_tp m_rd m_ac m_as m_wo m_ik m_ke m_tr ms mt ml mk mv mb mw mz mp ma mx fs w9 k9 h9 0 (hM)) (cwV 1 hts gX8_count_X8_those rfl rfl rfl (by decide +kernel) ⟨Nat.le_of_ble_eq_true rfl, Nat.le_of_ble_eq_true rfl⟩) (pvP 8 0 hK hP rfl rfl hPc_29) rfl rfl hl.1 rfl (lv_room (Nat.le_of_ble_eq_true rfl)) dX8_count_113 ⟨Nat.le_of_ble_eq_true rfl, Nat.le_of_ble_eq_true rfl⟩) (fun r_29 h_29 => ?_)
      obtain ⟨j_29, rfl, hz_29_0, hz_29_1⟩ := h_29
      have hPc_30 := hP.sub (ws' := []) [] rfl
      refine vp_callSi (W.runS (As := [.int (nI j_29)]) (rest := []) ⟨hx, hb, hml, hown, hts⟩ (r_X8_ones l dC dI cI cZ cL cJ j_29 (by omega)) (va_cwS 1 hts gX8_count_X8_ones rfl rfl rfl (by decide +kernel) ⟨Nat.le_of_ble_eq_true rfl, Nat.le_of_ble_eq_true rfl⟩) (psP hK hPc_30) rfl rfl hl.1 rfl (lv_room (Nat.le_of_ble_eq_true rfl)) dX8_count_116 ⟨Nat.le_of_ble_eq_true rfl, Nat.le_of_ble_eq_true rfl⟩) (fun r_30 h_30 => ?_)
      exact W.iret (v := r_30) hx hb hr (fun t ht hW => ⟨r_30, rfl, (lf_X8_count_8 hM hT h999 hT0 hsz9 hln9 haf_0 k_19 k_20 k_22 k_24 k_26 hz_29_0 hz_29_1 h_30), ht⟩) (fun _ h => by cases h) dX8_count_119
    by_cases k_31 : a0 = 6
    · subst k_31
      refine lv_tableIn (off := 86) (tgt := 120) hx hb dX8_count_34 (by decide) (by decide) (by decide) (by decide) ?_
      refine lv_aload_n hx hb dX8_count_120 rfl (lv_at hl 2 rfl) ?_
      refine va_get (D := (dC, dI)) (ci := 8) (v := .int (nI ma)) (C := RX8) (T := TX8) (N := 24) hx hb hts i_X8_count_X8 hown hK hP 0 rfl rfl 17 (by decide) (hts _ mx_X8_count_3) (fun _ h9 => h9) rfl dX8_count_121 ?_
      exact W.iret (v := (nI ma)) hx hb hr (fun t ht hW => ⟨(nI ma), rfl, (lf_X8_count_9 hM hT h999 hT0 hsz9 hln9 haf_0 k_19 k_20 k_22 k_24 k_26 k_28), ht⟩) (fun _ h => by cases h) dX8_count_124
    by_cases k_32 : a0 = 7
    · subst k_32
      refine lv_tableIn (off := 91) (tgt := 125) hx hb dX8_count_34 (by decide) (by decide) (by decide) (by decide) ?_
      refine lv_aload_n hx hb dX8_count_125 rfl (lv_at hl 2 rfl) ?_
      refine va_get (D := (dC, dI)) (ci := 8) (v := .int (nI mz)) (C := RX8) (T := TX8) (N := 24) hx hb hts i_X8_count_X8 hown hK hP 0 rfl rfl 8 (by decide) (hts _ mx_X8_count_4) (fun _ h9 => h9) rfl dX8_count_126 ?_
      exact W.iret (v := (nI mz)) hx hb hr (fun t ht hW => ⟨(nI mz), rfl, (lf_X8_count_10 hM hT h999 hT0 hsz9 hln9 haf_0 k_19 k_20 k_22 k_24 k_26 k_28 k_31), ht⟩) (fun _ h => by cases h) dX8_count_129
    have kT_19 := lv_neT k_19 (show (0 : Int32).toInt = 0 from rfl)
    have kT_20 := lv_neT k_20 (show (1 : Int32).toInt = 1 from rfl)
    have kT_22 := lv_neT k_22 (show (2 : Int32).toInt = 2 from rfl)
    have kT_24 := lv_neT k_24 (show (3 : Int32).toInt = 3 from rfl)
    have kT_26 := lv_neT k_26 (show (4 : Int32).toInt = 4 from rfl)
    have kT_28 := lv_neT k_28 (show (5 : Int32).toInt = 5 from rfl)
    have kT_31 := lv_neT k_31 (show (6 : Int32).toInt = 6 from rfl)
    have kT_32 := lv_neT k_32 (show (7 : Int32).toInt = 7 from rfl)
    refine lv_tableOut (tgt := 130) hx hb dX8_count_34 (by omega) (by decide) ?_
    refine lv_ldc (own := RX8) (v := (-1000001)) hx hb hown (hts _ mx_X8_count_5) dX8_count_130 ?_
    exact W.iret (v := (-1000001)) hx hb hr (fun t ht hW => ⟨(-1000001), rfl, (lf_X8_count_11 hM hT h999 hT0 hsz9 hln9 haf_0 k_19 k_20 k_22 k_24 k_26 k_28 k_31 k_32), ht⟩) (fun _ h => by cases h) dX8_count_132
set_option maxHeartbeats 4000000 in
set_option maxRecDepth 100000 in
theorem r_X8_status (l : Launch) (dC : Nat → ClassId) (dI : Nat → Nat → Nat) (cI cZ cL cJ : ClassId) (mo : Nat) (m_la : Nat) (m_sz : Nat) (m_it : Nat) (m_st : Nat) (m_mv : Nat) (m_tp : Nat) (m_rd : Nat) (m_ac : Nat) (m_as : Nat) (m_wo : Nat) (m_ik : Nat) (m_ke : Nat) (m_tr : Nat) (ms : Int32) (mt : Int32) (ml : Int32) (mk : Int32) (mv : Int32) (mb : Int32) (mw : Int32) (mz : Nat) (mp : Nat) (ma : Nat) (mx : Nat)  : Met l yX8_status wsX8_status ({ frames := 0, cells := 0, slots := 0, locals := 0 }) (va_Pc [.ref mo] (fun U => va_P (dC, dI) vwCl [(xo_8_rrriirrriiiiiiirrirrrrri mo m_la m_sz m_it ms mt m_st m_mv m_tp (nI mz) ml (nI mp) mk mv mb mw m_rd m_ac (nI ma) m_as m_wo m_ik m_ke m_tr (nI mx))] U.heap ∧ va_K (dC, dI) vwCl [(cI, .int), (cZ, .boolean), (cL, .object RX3), (cJ, .array .int)] U)) (vp_Si (fun r => r = ms)) 0 0 (fun _ => False) := by
  refine Met.ofW (cc := cX8_status) (maxL := 1) (ret := (some .int)) (by decide) rfl ?_
  intro p e s m args below meth c s₁ B hml hv
  obtain ⟨rfl, hP, hK⟩ := hv
  have hx := B.exec
  have hb := B.bytes
  have hr := B.returns
  have hts := atoms_spec (ws := wsX8_status) B.pre
  have hown : s.vm.findClass RX8 = some m.cls := findClass_of_methodNamed B.named
  have hlocks := B.notSynchronized
  have hP : va_P (dC, dI) vwCl [(xo_8_rrriirrriiiiiiirrirrrrri mo m_la m_sz m_it ms mt m_st m_mv m_tp (nI mz) ml (nI mp) mk mv mb mw m_rd m_ac (nI ma) m_as m_wo m_ik m_ke m_tr (nI mx))] s.heap := hP
  have hl := lv_entry ([.ref mo]) (n := 1) (Nat.le_of_ble_eq_true rfl)
  rw [lg_entry_eq]
  generalize (lg_sl ([.ref mo]) ++ List.replicate (1 - (lg_sl ([.ref mo])).length) Slot.unset).toArray = ls at hl ⊢
  have hl : lv_has ls 1 [(0, .ref mo)] := hl
  refine lv_aload_n hx hb dX8_status_0 rfl (lv_at hl 0 rfl) ?_
  refine va_get (D := (dC, dI)) (ci := 8) (v := .int ms) (C := RX8) (T := TX8) (N := 24) hx hb hts i_X8_status_X8 hown hK hP 0 rfl rfl 3 (by decide) (hts _ mx_X8_status_1) (fun _ h9 => h9) rfl dX8_status_1 ?_
  exact W.iret (v := ms) hx hb hr (fun t ht hW => ⟨ms, rfl, rfl, ht⟩) (fun _ h => by cases h) dX8_status_4
set_option maxHeartbeats 4000000 in
set_option maxRecDepth 100000 in
theorem r_X8_fault (l : Launch) (dC : Nat → ClassId) (dI : Nat → Nat → Nat) (cI cZ cL cJ : ClassId) (mo : Nat) (m_la : Nat) (m_sz : Nat) (m_it : Nat) (m_st : Nat) (m_mv : Nat) (m_tp : Nat) (m_rd : Nat) (m_ac : Nat) (m_as : Nat) (m_wo : Nat) (m_ik : Nat) (m_ke : Nat) (m_tr : Nat) (ms : Int32) (mt : Int32) (ml : Int32) (mk : Int32) (mv : Int32) (mb : Int32) (mw : Int32) (mz : Nat) (mp : Nat) (ma : Nat) (mx : Nat)  : Met l yX8_fault wsX8_fault ({ frames := 0, cells := 0, slots := 0, locals := 0 }) (va_Pc [.ref mo] (fun U => va_P (dC, dI) vwCl [(xo_8_rrriirrriiiiiiirrirrrrri mo m_la m_sz m_it ms mt m_st m_mv m_tp (nI mz) ml (nI mp) mk mv mb mw m_rd m_ac (nI ma) m_as m_wo m_ik m_ke m_tr (nI mx))] U.heap ∧ va_K (dC, dI) vwCl [(cI, .int), (cZ, .boolean), (cL, .object RX3), (cJ, .array .int)] U)) (vp_Si (fun r => r = ml)) 0 0 (fun _ => False) := by
  refine Met.ofW (cc := cX8_fault) (maxL := 1) (ret := (some .int)) (by decide) rfl ?_
  intro p e s m args below meth c s₁ B hml hv
  obtain ⟨rfl, hP, hK⟩ := hv
  have hx := B.exec
  have hb := B.bytes
  have hr := B.returns
  have hts := atoms_spec (ws := wsX8_fault) B.pre
  have hown : s.vm.findClass RX8 = some m.cls := findClass_of_methodNamed B.named
  have hlocks := B.notSynchronized
  have hP : va_P (dC, dI) vwCl [(xo_8_rrriirrriiiiiiirrirrrrri mo m_la m_sz m_it ms mt m_st m_mv m_tp (nI mz) ml (nI mp) mk mv mb mw m_rd m_ac (nI ma) m_as m_wo m_ik m_ke m_tr (nI mx))] s.heap := hP
  have hl := lv_entry ([.ref mo]) (n := 1) (Nat.le_of_ble_eq_true rfl)
  rw [lg_entry_eq]
  generalize (lg_sl ([.ref mo]) ++ List.replicate (1 - (lg_sl ([.ref mo])).length) Slot.unset).toArray = ls at hl ⊢
  have hl : lv_has ls 1 [(0, .ref mo)] := hl
  refine lv_aload_n hx hb dX8_fault_0 rfl (lv_at hl 0 rfl) ?_
  refine va_get (D := (dC, dI)) (ci := 8) (v := .int ml) (C := RX8) (T := TX8) (N := 24) hx hb hts i_X8_fault_X8 hown hK hP 0 rfl rfl 9 (by decide) (hts _ mx_X8_fault_1) (fun _ h9 => h9) rfl dX8_fault_1 ?_
  exact W.iret (v := ml) hx hb hr (fun t ht hW => ⟨ml, rfl, rfl, ht⟩) (fun _ h => by cases h) dX8_fault_4
theorem lf_X8_trace_1 {mx : Nat} {fe_ : Nat → Int32} {a0 : Int32} {v_1 : Int32} (hmx : mx ≤ 16) (e_1 : v_1 = ((nI mx) - 1)) (f_2_0_0 : ((a0).toInt64 < 0 ∨ (v_1).toInt64 < (a0).toInt64)) (q_2 : (a0 < 0 ∨ v_1 < a0)) : (-1000000) = (a_trc (mx, fe_) a0) := by
  first
  | (have h9 := @trc_M a0 mx
     simp only [a_trc]
     grind [nI_clamp, nI_pos, nI_ge])
  | (simp only [a_trc]
     grind [nI_clamp, nI_pos, nI_ge])
theorem lf_X8_trace_2 {mx : Nat} {fe_ : Nat → Int32} {v_1 : Int32} {j_2 : Nat} {v_5 : Int32} (hmx : mx ≤ 16) (e_1 : v_1 = ((nI mx) - 1)) (f_2_1_0 : (¬ (((nI j_2)).toInt64 < 0 ∨ (v_1).toInt64 < ((nI j_2)).toInt64))) (q_2 : ¬ ((nI j_2) < 0 ∨ v_1 < (nI j_2))) (hj_2 : j_2 < mx) (e_5 : v_5 = fe_ j_2) : v_5 = (a_trc (mx, fe_) (nI j_2)) := by
  first
  | (have h9 := @trc_M a0 mx
     simp only [a_trc]
     grind [nI_clamp, nI_pos, nI_ge])
  | (simp only [a_trc]
     grind [nI_clamp, nI_pos, nI_ge])
set_option maxHeartbeats 4000000 in
set_option maxRecDepth 100000 in
theorem r_X8_trace (l : Launch) (dC : Nat → ClassId) (dI : Nat → Nat → Nat) (cI cZ cL cJ : ClassId) (mo : Nat) (m_la : Nat) (m_sz : Nat) (m_it : Nat) (m_st : Nat) (m_mv : Nat) (m_tp : Nat) (m_rd : Nat) (m_ac : Nat) (m_as : Nat) (m_wo : Nat) (m_ik : Nat) (m_ke : Nat) (m_tr : Nat) (ms : Int32) (mt : Int32) (ml : Int32) (mk : Int32) (mv : Int32) (mb : Int32) (mw : Int32) (mz : Nat) (mp : Nat) (ma : Nat) (mx : Nat) (fe_ : Nat → Int32) (a0 : Int32) (hmx : mx ≤ 16) : Met l yX8_trace wsX8_trace ({ frames := 1, cells := 0, slots := 0, locals := 25 }) (va_Pc [.ref mo, .int a0] (fun U => va_P (dC, dI) vwCl [(xo_8_rrriirrriiiiiiirrirrrrri mo m_la m_sz m_it ms mt m_st m_mv m_tp (nI mz) ml (nI mp) mk mv mb mw m_rd m_ac (nI ma) m_as m_wo m_ik m_ke m_tr (nI mx)), (xI m_tr cI 16 fe_)] U.heap ∧ va_K (dC, dI) vwCl [(cI, .int), (cZ, .boolean), (cL, .object RX3), (cJ, .array .int)] U)) (vp_Si (fun r => r = (a_trc (mx, fe_) a0))) 0 0 (fun _ => False) := by
  refine Met.ofW (cc := cX8_trace) (maxL := 2) (ret := (some .int)) (by decide) rfl ?_
  intro p e s m args below meth c s₁ B hml hv
  obtain ⟨rfl, hP, hK⟩ := hv
  have hx := B.exec
  have hb := B.bytes
  have hr := B.returns
  have hts := atoms_spec (ws := wsX8_trace) B.pre
  have hown : s.vm.findClass RX8 = some m.cls := findClass_of_methodNamed B.named
  have hlocks := B.notSynchronized
  have hP : va_P (dC, dI) vwCl [(xo_8_rrriirrriiiiiiirrirrrrri mo m_la m_sz m_it ms mt m_st m_mv m_tp (nI mz) ml (nI mp) mk mv mb mw m_rd m_ac (nI ma) m_as m_wo m_ik m_ke m_tr (nI mx)), (xI m_tr cI 16 fe_)] s.heap := hP
  have hl := lv_entry ([.ref mo, .int a0]) (n := 2) (Nat.le_of_ble_eq_true rfl)
  rw [lg_entry_eq]
  generalize (lg_sl ([.ref mo, .int a0]) ++ List.replicate (2 - (lg_sl ([.ref mo, .int a0])).length) Slot.unset).toArray = ls at hl ⊢
  have hl : lv_has ls 2 [(0, .ref mo), (1, .int a0)] := hl
  refine lv_iload_n hx hb dX8_trace_0 rfl (lv_at hl 1 rfl) ?_
  refine lv_i2l hx hb dX8_trace_1 rfl ?_
  refine lv_lconst (v := 0) hx hb dX8_trace_2 (by decide) ?_
  refine lv_aload_n hx hb dX8_trace_3 rfl (lv_at hl 0 rfl) ?_
  refine va_get (D := (dC, dI)) (ci := 8) (v := .int (nI mx)) (C := RX8) (T := TX8) (N := 24) hx hb hts i_X8_trace_X8 hown hK hP 0 rfl rfl 23 (by decide) (hts _ mx_X8_trace_1) (fun _ h9 => h9) rfl dX8_trace_4 ?_
  refine lv_iconst (v := 1) hx hb dX8_trace_7 (by decide) ?_
  refine lv_isub hx hb dX8_trace_8 ?_
  refine lv_topi (fun v_1 e_1 => ?_)
  refine lv_i2l hx hb dX8_trace_9 rfl ?_
  have hPc_2 := hP.sub (ws' := []) [] rfl
  refine vp_callSi (W.runS (As := [.long (a0).toInt64, .long 0, .long (v_1).toInt64]) (rest := []) ⟨hx, hb, hml, hown, hts⟩ (r_X8_in l dC dI cI cZ cL cJ ((a0).toInt64) 0 ((v_1).toInt64) ) (va_cwS 3 hts gX8_trace_X8_in rfl rfl rfl (by decide +kernel) ⟨Nat.le_of_ble_eq_true rfl, Nat.le_of_ble_eq_true rfl⟩) (psP hK hPc_2) rfl rfl hl.1 rfl (lv_room (Nat.le_of_ble_eq_true rfl)) dX8_trace_10 ⟨Nat.le_of_ble_eq_true rfl, Nat.le_of_ble_eq_true rfl⟩) (fun r_2 h_2 => ?_)
  rcases h_2 with ⟨h_2, f_2_0_0⟩ | ⟨h_2, f_2_1_0⟩
  · subst h_2
    have q_2 : (a0 < 0 ∨ v_1 < a0) := (in32 (x := a0) (l := 0) (u := v_1) (by decide) rfl).mp f_2_0_0
    refine lv_if_eq (tgt := 25) hx hb dX8_trace_13 (by decide) (fun _ => ?_) (fun c_ => absurd (by decide) c_)
    refine lv_ldc (own := RX8) (v := (-1000000)) hx hb hown (hts _ mx_X8_trace_3) dX8_trace_25 ?_
    exact W.iret (v := (-1000000)) hx hb hr (fun t ht hW => ⟨(-1000000), rfl, (lf_X8_trace_1 hmx e_1 f_2_0_0 q_2), ht⟩) (fun _ h => by cases h) dX8_trace_27
  · subst h_2
    have q_2 : ¬ (a0 < 0 ∨ v_1 < a0) := fun q_ => f_2_1_0 ((in32 (x := a0) (l := 0) (u := v_1) (by decide) rfl).mpr q_)
    obtain ⟨j_2, hj_2, rfl⟩ := vp_in_of (snd_in (k := mx) (by omega) e_1 f_2_1_0) (by omega)
    refine lv_if_eq (tgt := 25) hx hb dX8_trace_13 (by decide) (fun c_ => absurd c_ (by decide)) (fun _ => ?_)
    refine lv_aload_n hx hb dX8_trace_16 rfl (lv_at hl 0 rfl) ?_
    refine va_get (D := (dC, dI)) (ci := 8) (v := .ref m_tr) (C := RX8) (T := TX8) (N := 24) hx hb hts i_X8_trace_X8 hown hK hP 0 rfl rfl 22 (by decide) (hts _ mx_X8_trace_2) (fun _ h9 => h9) rfl dX8_trace_17 ?_
    refine lv_iload_n hx hb dX8_trace_20 rfl (lv_at hl 1 rfl) ?_
    refine va_iald hx hb hK hP 1 0 rfl rfl (vp_in_nI (by omega) (by omega)) dX8_trace_21 ?_
    refine lv_topi (fun v_5 e_5 => ?_)
    have e_5 : v_5 = fe_ j_2 := e_5.trans (congrArg fe_ (nI_clamp (by omega)))
    refine lv_goto (tgt := 27) hx hb dX8_trace_22 (by decide) ?_
    exact W.iret (v := v_5) hx hb hr (fun t ht hW => ⟨v_5, rfl, (lf_X8_trace_2 hmx e_1 f_2_1_0 q_2 hj_2 e_5), ht⟩) (fun _ h => by cases h) dX8_trace_27
theorem lf_X8_image_1 {mt : Int32} {ma : Nat} {fs : Nat → Int32} {w9 : Nat} {k9 : Nat} {h9 : Nat} {fk : Nat → Int32} {fq : Nat → Int32} {a0 : Int32} (hM : okM fs w9 k9 h9) (hT : ¬ mt = 0 → 1 ≤ k9) (h999 : h9 ≤ 999) (hT0 : mt = 0 → fs 0 = 0 ∧ ma = 0) (hke : okKP fk fq) (hK0 : mt = 0 → fk 0 = 0 ∧ fk 1 = 0) (f_1_0_0 : ((a0).toInt64 < 0 ∨ 1 < (a0).toInt64)) (q_1 : (a0 < 0 ∨ 1 < a0)) : imM fk fq 0 = n_image (m38 fs) (imM fk fq 0) a0 0 := by
  first
  | exact hK0
  | exact (xim_0 (r := m38 fs) h00).symm
  | (have h9 := bd2_iff (a := a0); simp only [a_image, n_image, mm0] at *; grind)
  | (simp only [a_image, bd2, mm0] at *; grind)
theorem lf_X8_image_2 {mt : Int32} {ma : Nat} {fs : Nat → Int32} {w9 : Nat} {k9 : Nat} {h9 : Nat} {fk : Nat → Int32} {fq : Nat → Int32} {a0 : Int32} (hM : okM fs w9 k9 h9) (hT : ¬ mt = 0 → 1 ≤ k9) (h999 : h9 ≤ 999) (hT0 : mt = 0 → fs 0 = 0 ∧ ma = 0) (hke : okKP fk fq) (hK0 : mt = 0 → fk 0 = 0 ∧ fk 1 = 0) (f_1_0_0 : ((a0).toInt64 < 0 ∨ 1 < (a0).toInt64)) (q_1 : (a0 < 0 ∨ 1 < a0)) : imM fk fq 1 = n_image (m38 fs) (imM fk fq 1) a0 1 := by
  first
  | exact hK0
  | exact (xim_0 (r := m38 fs) h00).symm
  | (have h9 := bd2_iff (a := a0); simp only [a_image, n_image, mm0] at *; grind)
  | (simp only [a_image, bd2, mm0] at *; grind)
theorem lf_X8_image_3 {mt : Int32} {ma : Nat} {fs : Nat → Int32} {w9 : Nat} {k9 : Nat} {h9 : Nat} {fk : Nat → Int32} {fq : Nat → Int32} {a0 : Int32} (hM : okM fs w9 k9 h9) (hT : ¬ mt = 0 → 1 ≤ k9) (h999 : h9 ≤ 999) (hT0 : mt = 0 → fs 0 = 0 ∧ ma = 0) (hke : okKP fk fq) (hK0 : mt = 0 → fk 0 = 0 ∧ fk 1 = 0) (f_1_0_0 : ((a0).toInt64 < 0 ∨ 1 < (a0).toInt64)) (q_1 : (a0 < 0 ∨ 1 < a0)) : (-1000001) = (a_image (m38 fs) a0) := by
  first
  | exact hK0
  | exact (xim_0 (r := m38 fs) h00).symm
  | (have h9 := bd2_iff (a := a0); simp only [a_image, n_image, mm0] at *; grind)
  | (simp only [a_image, bd2, mm0] at *; grind)
theorem lf_X8_image_4 {mt : Int32} {ma : Nat} {fs : Nat → Int32} {w9 : Nat} {k9 : Nat} {h9 : Nat} {fk : Nat → Int32} {fq : Nat → Int32} {j_1 : Nat} {w_10 : Nat → Int32} (hM : okM fs w9 k9 h9) (hT : ¬ mt = 0 → 1 ≤ k9) (h999 : h9 ≤ 999) (hT0 : mt = 0 → fs 0 = 0 ∧ ma = 0) (hke : okKP fk fq) (hK0 : mt = 0 → fk 0 = 0 ∧ fk 1 = 0) (f_1_1_0 : (¬ (((nI j_1)).toInt64 < 0 ∨ 1 < ((nI j_1)).toInt64))) (q_1 : ¬ ((nI j_1) < 0 ∨ 1 < (nI j_1))) (hj_1 : j_1 ≤ 1) (c_4 : ¬ (mt = 0)) (hkn1 : 1 ≤ k9) (hw1 : 1 ≤ w9) (h01 : ¬ fs 0 = 0) (haf_0 : (∀ j : Nat, j < 38 → w_10 (38 * j_1 + j) = fs j)) (haf_1 : (∀ j : Nat, j < 38 * j_1 ∨ 38 * j_1 + 38 ≤ j → w_10 j = fq j)) : 1 = (a_image (m38 fs) (nI j_1)) := by
  first
  | exact hK0
  | exact (xim_0 (r := m38 fs) h00).symm
  | (have h9 := bd2_iff (a := a0); simp only [a_image, n_image, mm0] at *; grind)
  | (simp only [a_image, bd2, mm0] at *; grind)
theorem lf_X8_image_5 {mt : Int32} {ma : Nat} {fs : Nat → Int32} {w9 : Nat} {k9 : Nat} {h9 : Nat} {fk : Nat → Int32} {fq : Nat → Int32} {j_1 : Nat} (hM : okM fs w9 k9 h9) (hT : ¬ mt = 0 → 1 ≤ k9) (h999 : h9 ≤ 999) (hT0 : mt = 0 → fs 0 = 0 ∧ ma = 0) (hke : okKP fk fq) (hK0 : mt = 0 → fk 0 = 0 ∧ fk 1 = 0) (f_1_1_0 : (¬ (((nI j_1)).toInt64 < 0 ∨ 1 < ((nI j_1)).toInt64))) (q_1 : ¬ ((nI j_1) < 0 ∨ 1 < (nI j_1))) (hj_1 : j_1 ≤ 1) (c_4 : mt = 0) (h00 : fs 0 = 0) : imM fk fq 0 = n_image (m38 fs) (imM fk fq 0) (nI j_1) 0 := by
  first
  | exact hK0
  | exact (xim_0 (r := m38 fs) h00).symm
  | (have h9 := bd2_iff (a := a0); simp only [a_image, n_image, mm0] at *; grind)
  | (simp only [a_image, bd2, mm0] at *; grind)
theorem lf_X8_image_6 {mt : Int32} {ma : Nat} {fs : Nat → Int32} {w9 : Nat} {k9 : Nat} {h9 : Nat} {fk : Nat → Int32} {fq : Nat → Int32} {j_1 : Nat} (hM : okM fs w9 k9 h9) (hT : ¬ mt = 0 → 1 ≤ k9) (h999 : h9 ≤ 999) (hT0 : mt = 0 → fs 0 = 0 ∧ ma = 0) (hke : okKP fk fq) (hK0 : mt = 0 → fk 0 = 0 ∧ fk 1 = 0) (f_1_1_0 : (¬ (((nI j_1)).toInt64 < 0 ∨ 1 < ((nI j_1)).toInt64))) (q_1 : ¬ ((nI j_1) < 0 ∨ 1 < (nI j_1))) (hj_1 : j_1 ≤ 1) (c_4 : mt = 0) (h00 : fs 0 = 0) : imM fk fq 1 = n_image (m38 fs) (imM fk fq 1) (nI j_1) 1 := by
  first
  | exact hK0
  | exact (xim_0 (r := m38 fs) h00).symm
  | (have h9 := bd2_iff (a := a0); simp only [a_image, n_image, mm0] at *; grind)
  | (simp only [a_image, bd2, mm0] at *; grind)
theorem lf_X8_image_7 {mt : Int32} {ma : Nat} {fs : Nat → Int32} {w9 : Nat} {k9 : Nat} {h9 : Nat} {fk : Nat → Int32} {fq : Nat → Int32} {j_1 : Nat} (hM : okM fs w9 k9 h9) (hT : ¬ mt = 0 → 1 ≤ k9) (h999 : h9 ≤ 999) (hT0 : mt = 0 → fs 0 = 0 ∧ ma = 0) (hke : okKP fk fq) (hK0 : mt = 0 → fk 0 = 0 ∧ fk 1 = 0) (f_1_1_0 : (¬ (((nI j_1)).toInt64 < 0 ∨ 1 < ((nI j_1)).toInt64))) (q_1 : ¬ ((nI j_1) < 0 ∨ 1 < (nI j_1))) (hj_1 : j_1 ≤ 1) (c_4 : mt = 0) (h00 : fs 0 = 0) : (-1000002) = (a_image (m38 fs) (nI j_1)) := by
  first
  | exact hK0
  | exact (xim_0 (r := m38 fs) h00).symm
  | (have h9 := bd2_iff (a := a0); simp only [a_image, n_image, mm0] at *; grind)
  | (simp only [a_image, bd2, mm0] at *; grind)
set_option maxHeartbeats 4000000 in
set_option maxRecDepth 100000 in
theorem r_X8_image (l : Launch) (dC : Nat → ClassId) (dI : Nat → Nat → Nat) (cI cZ cL cJ : ClassId) (sz : Nat) (mo : Nat) (m_la : Nat) (m_sz : Nat) (m_it : Nat) (m_st : Nat) (m_mv : Nat) (m_tp : Nat) (m_rd : Nat) (m_ac : Nat) (m_as : Nat) (m_wo : Nat) (m_ik : Nat) (m_ke : Nat) (m_tr : Nat) (ms : Int32) (mt : Int32) (ml : Int32) (mk : Int32) (mv : Int32) (mb : Int32) (mw : Int32) (mz : Nat) (mp : Nat) (ma : Nat) (mx : Nat) (fs : Nat → Int32) (w9 : Nat) (k9 : Nat) (h9 : Nat) (fk : Nat → Int32) (fq : Nat → Int32) (a0 : Int32) (hM : okM fs w9 k9 h9) (hT : ¬ mt = 0 → 1 ≤ k9) (h999 : h9 ≤ 999) (hT0 : mt = 0 → fs 0 = 0 ∧ ma = 0) (hke : okKP fk fq) (hK0 : mt = 0 → fk 0 = 0 ∧ fk 1 = 0) : Met l yX8_image wsX8_image ({ frames := 1, cells := 0, slots := 0, locals := 25 }) (va_Pc [.ref mo, .int a0] (fun U => U.heap.size = sz ∧ va_P (dC, dI) vwCl [(xo_8_rrriirrriiiiiiirrirrrrri mo m_la m_sz m_it ms mt m_st m_mv m_tp (nI mz) ml (nI mp) mk mv mb mw m_rd m_ac (nI ma) m_as m_wo m_ik m_ke m_tr (nI mx)), (xI m_st cI 38 fs), (xI m_ik cZ 2 fk), (xI m_ke cI 76 fq)] U.heap ∧ va_K (dC, dI) vwCl [(cI, .int), (cZ, .boolean), (cL, .object RX3), (cJ, .array .int)] U ∧ va_D (fun _ => True) [(xo_8_rrriirrriiiiiiirrirrrrri mo m_la m_sz m_it ms mt m_st m_mv m_tp (nI mz) ml (nI mp) mk mv mb mw m_rd m_ac (nI ma) m_as m_wo m_ik m_ke m_tr (nI mx)), (xI m_st cI 38 fs), (xI m_ik cZ 2 fk), (xI m_ke cI 76 fq)])) (va_Qi (fun r (_ : Unit) => r = (a_image (m38 fs) a0)) (fun (_ : Unit) t => ∃ (fkn : Nat → Int32) (fqn : Nat → Int32), va_P (dC, dI) vwCl [(xo_8_rrriirrriiiiiiirrirrrrri mo m_la m_sz m_it ms mt m_st m_mv m_tp (nI mz) ml (nI mp) mk mv mb mw m_rd m_ac (nI ma) m_as m_wo m_ik m_ke m_tr (nI mx)), (xI m_st cI 38 fs), (xI m_ik cZ 2 fkn), (xI m_ke cI 76 fqn)] t.heap ∧ va_D (va_A [(xo_8_rrriirrriiiiiiirrirrrrri mo m_la m_sz m_it ms mt m_st m_mv m_tp (nI mz) ml (nI mp) mk mv mb mw m_rd m_ac (nI ma) m_as m_wo m_ik m_ke m_tr (nI mx)), (xI m_st cI 38 fs), (xI m_ik cZ 2 fk), (xI m_ke cI 76 fq)] sz) [(xo_8_rrriirrriiiiiiirrirrrrri mo m_la m_sz m_it ms mt m_st m_mv m_tp (nI mz) ml (nI mp) mk mv mb mw m_rd m_ac (nI ma) m_as m_wo m_ik m_ke m_tr (nI mx)), (xI m_st cI 38 fs), (xI m_ik cZ 2 fkn), (xI m_ke cI 76 fqn)] ∧ okKP fkn fqn ∧ (mt = 0 → fkn 0 = 0 ∧ fkn 1 = 0) ∧ imM fkn fqn 0 = n_image (m38 fs) (imM fk fq 0) a0 0 ∧ imM fkn fqn 1 = n_image (m38 fs) (imM fk fq 1) a0 1) (va_A [(xo_8_rrriirrriiiiiiirrirrrrri mo m_la m_sz m_it ms mt m_st m_mv m_tp (nI mz) ml (nI mp) mk mv mb mw m_rd m_ac (nI ma) m_as m_wo m_ik m_ke m_tr (nI mx)), (xI m_st cI 38 fs), (xI m_ik cZ 2 fk), (xI m_ke cI 76 fq)] sz)) 0 0 (va_A [(xo_8_rrriirrriiiiiiirrirrrrri mo m_la m_sz m_it ms mt m_st m_mv m_tp (nI mz) ml (nI mp) mk mv mb mw m_rd m_ac (nI ma) m_as m_wo m_ik m_ke m_tr (nI mx)), (xI m_st cI 38 fs), (xI m_ik cZ 2 fk), (xI m_ke cI 76 fq)] sz) := by
  refine Met.ofW (cc := cX8_image) (maxL := 3) (ret := (some .int)) (by decide) rfl ?_
  intro p e s m args below meth c s₁ B hml hv
  obtain ⟨rfl, hsz, hP, hK, hD0⟩ := hv
  have hx := B.exec
  have hb := B.bytes
  have hr := B.returns
  have hts := atoms_spec (ws := wsX8_image) B.pre
  have hown : s.vm.findClass RX8 = some m.cls := findClass_of_methodNamed B.named
  have hlocks := B.notSynchronized
  subst hsz
  have hD := hD0.self (sz := s.heap.size)
  generalize hAe : va_A [(xo_8_rrriirrriiiiiiirrirrrrri mo m_la m_sz m_it ms mt m_st m_mv m_tp (nI mz) ml (nI mp) mk mv mb mw m_rd m_ac (nI ma) m_as m_wo m_ik m_ke m_tr (nI mx)), (xI m_st cI 38 fs), (xI m_ik cZ 2 fk), (xI m_ke cI 76 fq)] s.heap.size = A at hD ⊢
  have hA : ∀ q : Nat, s.heap.size ≤ q → A q := fun q h => by rw [← hAe]; exact Or.inr h
  have hS : va_S A s.heap s.heap [] := va_S.rf
  have hP : va_P (dC, dI) vwCl [(xo_8_rrriirrriiiiiiirrirrrrri mo m_la m_sz m_it ms mt m_st m_mv m_tp (nI mz) ml (nI mp) mk mv mb mw m_rd m_ac (nI ma) m_as m_wo m_ik m_ke m_tr (nI mx)), (xI m_st cI 38 fs), (xI m_ik cZ 2 fk), (xI m_ke cI 76 fq)] s.heap := hP
  have hl := lv_entry ([.ref mo, .int a0]) (n := 3) (Nat.le_of_ble_eq_true rfl)
  rw [lg_entry_eq]
  generalize (lg_sl ([.ref mo, .int a0]) ++ List.replicate (3 - (lg_sl ([.ref mo, .int a0])).length) Slot.unset).toArray = ls at hl ⊢
  have hl : lv_has ls 3 [(0, .ref mo), (1, .int a0)] := hl
  have hk6 := hM.2.2.2.2.1
  have hw6 := hM.2.2.2.1
  refine lv_iload_n hx hb dX8_image_0 rfl (lv_at hl 1 rfl) ?_
  refine lv_i2l hx hb dX8_image_1 rfl ?_
  refine lv_lconst (v := 0) hx hb dX8_image_2 (by decide) ?_
  refine lv_lconst (v := 1) hx hb dX8_image_3 (by decide) ?_
  have hPc_1 := hP.sub (ws' := []) [] rfl
  refine vp_callSi (W.runS (As := [.long (a0).toInt64, .long 0, .long 1]) (rest := []) ⟨hx, hb, hml, hown, hts⟩ (r_X8_in l dC dI cI cZ cL cJ ((a0).toInt64) 0 1 ) (va_cwS 3 hts gX8_image_X8_in rfl rfl rfl (by decide +kernel) ⟨Nat.le_of_ble_eq_true rfl, Nat.le_of_ble_eq_true rfl⟩) (psP hK hPc_1) rfl rfl hl.1 rfl (lv_room (Nat.le_of_ble_eq_true rfl)) dX8_image_4 ⟨Nat.le_of_ble_eq_true rfl, Nat.le_of_ble_eq_true rfl⟩) (fun r_1 h_1 => ?_)
  rcases h_1 with ⟨h_1, f_1_0_0⟩ | ⟨h_1, f_1_1_0⟩
  · subst h_1
    have q_1 : (a0 < 0 ∨ 1 < a0) := (in32 (x := a0) (l := 0) (u := 1) (by decide) (by decide)).mp f_1_0_0
    refine lv_if_ne (tgt := 13) hx hb dX8_image_7 (by decide) (fun c_ => absurd (by decide) c_) (fun _ => ?_)
    refine lv_ldc (own := RX8) (v := (-1000001)) hx hb hown (hts _ mx_X8_image_1) dX8_image_10 ?_
    have hX9 := cut2 (wc := [(xo_8_rrriirrriiiiiiirrirrrrri mo m_la m_sz m_it ms mt m_st m_mv m_tp (nI mz) ml (nI mp) mk mv mb mw m_rd m_ac (nI ma) m_as m_wo m_ik m_ke m_tr (nI mx)), (xI m_st cI 38 fs), (xI m_ik cZ 2 fk), (xI m_ke cI 76 fq)]) hP hD [0, 1, 2, 3] (by decide +kernel) rfl
    exact W.iret (v := (-1000001)) hx hb hr (fun t ht hW => ⟨⟨(-1000001), (), rfl, (lf_X8_image_3 hM hT h999 hT0 hke hK0 f_1_0_0 q_1), ⟨fk, fq, va_Ht ht hX9.1, hX9.2, hke, hK0, (lf_X8_image_1 hM hT h999 hT0 hke hK0 f_1_0_0 q_1), (lf_X8_image_2 hM hT h999 hT0 hke hK0 f_1_0_0 q_1)⟩⟩, hS.F ht⟩) hS.2.2 dX8_image_12
  · subst h_1
    have q_1 : ¬ (a0 < 0 ∨ 1 < a0) := fun q_ => f_1_1_0 ((in32 (x := a0) (l := 0) (u := 1) (by decide) (by decide)).mpr q_)
    obtain ⟨j_1, hj_1, hl_1, rfl⟩ := in64 (lo := 0) (n := 1) rfl rfl (by decide) f_1_1_0
    refine lv_if_ne (tgt := 13) hx hb dX8_image_7 (by decide) (fun _ => ?_) (fun c_ => absurd c_ (by decide))
    refine lv_aload_n hx hb dX8_image_13 rfl (lv_at hl 0 rfl) ?_
    refine va_get (D := (dC, dI)) (ci := 8) (v := .int mt) (C := RX8) (T := TX8) (N := 24) hx hb hts i_X8_image_X8 hown hK hP 0 rfl rfl 4 (by decide) (hts _ mx_X8_image_2) (fun _ h9 => h9) rfl dX8_image_14 ?_
    refine lv_if_ne (tgt := 23) hx hb dX8_image_17 (by decide) (fun c_4 => ?_) (fun c_4 => ?_)
    · skip
      have hkn1 := hT c_4
      have hw1 := hM.2.2.2.2.2.1.mp hkn1
      have h01 : ¬ fs 0 = 0 := cell_nz hM hkn1
      refine lv_iconst (v := 0) hx hb dX8_image_23 (by decide) ?_
      refine lv_istore_n (lv' := [(2, .int 0), (0, .ref mo), (1, .int (nI j_1))]) hx hb dX8_image_24 rfl hl (by decide) rfl (fun ls hl => ?_)
      refine lp_go (σ := (Nat → Int32)) (fun ii (st : (Nat → Int32)) H locs ls => match st with | w_10 => lv_has ls 3 [(2, .int (nI ii)), (0, .ref mo), (1, .int (nI j_1))] ∧ va_P (dC, dI) vwCl [(xo_8_rrriirrriiiiiiirrirrrrri mo m_la m_sz m_it ms mt m_st m_mv m_tp (nI mz) ml (nI mp) mk mv mb mw m_rd m_ac (nI ma) m_as m_wo m_ik m_ke m_tr (nI mx)), (xI m_st cI 38 fs), (xI m_ik cZ 2 fk), (xI m_ke cI 76 w_10)] H ∧ va_D A [(xo_8_rrriirrriiiiiiirrirrrrri mo m_la m_sz m_it ms mt m_st m_mv m_tp (nI mz) ml (nI mp) mk mv mb mw m_rd m_ac (nI ma) m_as m_wo m_ik m_ke m_tr (nI mx)), (xI m_st cI 38 fs), (xI m_ik cZ 2 fk), (xI m_ke cI 76 w_10)] ∧ va_S A s.heap H locs ∧ (∀ j : Nat, j < ii → w_10 (38 * j_1 + j) = fs j) ∧ (∀ j : Nat, j < 38 * j_1 ∨ 38 * j_1 + 38 ≤ j → w_10 j = fq j)) 38 ?_ ?_ 0 (by omega) (fq) ⟨lv_sub hl [0, 1, 2] rfl, hP.sub (ws' := [(xo_8_rrriirrriiiiiiirrirrrrri mo m_la m_sz m_it ms mt m_st m_mv m_tp (nI mz) ml (nI mp) mk mv mb mw m_rd m_ac (nI ma) m_as m_wo m_ik m_ke m_tr (nI mx)), (xI m_st cI 38 fs), (xI m_ik cZ 2 fk), (xI m_ke cI 76 fq)]) [0, 1, 2, 3] rfl, hD.sub (ws' := [(xo_8_rrriirrriiiiiiirrirrrrri mo m_la m_sz m_it ms mt m_st m_mv m_tp (nI mz) ml (nI mp) mk mv mb mw m_rd m_ac (nI ma) m_as m_wo m_ik m_ke m_tr (nI mx)), (xI m_st cI 38 fs), (xI m_ik cZ 2 fk), (xI m_ke cI 76 fq)]) [0, 1, 2, 3] (by decide +kernel) rfl, hS, (fun j h_ => absurd h_ (Nat.not_lt_zero j)), (fun j _ => rfl)⟩
      · rintro ii w_10 H locs ls hii ⟨hl, hP, hD, hS, haf_0, haf_1⟩ ih
        refine lv_iload_n hx hb dX8_image_25 rfl (lv_at hl 0 rfl) ?_
        refine lv_bipush (v := 38) hx hb dX8_image_26 (by decide) ?_
        refine lv_icmp_ge (tgt := 54) hx hb dX8_image_28 (by decide) (fun c_ => absurd c_ (fun q_ => absurd ((nI_leI (a := 38) (b := ii) (by omega) (by omega)).mp q_) (by omega))) (fun _ => ?_)
        refine lv_aload_n hx hb dX8_image_31 rfl (lv_at hl 1 rfl) ?_
        refine va_get (D := (dC, dI)) (ci := 8) (v := .ref m_ke) (C := RX8) (T := TX8) (N := 24) hx hb hts i_X8_image_X8 hown hK hP 0 rfl rfl 21 (by decide) (hts _ mx_X8_image_4) (fun _ h9 => h9) rfl dX8_image_32 ?_
        refine lv_bipush (v := 38) hx hb dX8_image_35 (by decide) ?_
        refine lv_iload_n hx hb dX8_image_37 rfl (lv_at hl 2 rfl) ?_
        refine lv_imul hx hb dX8_image_38 ?_
        refine lv_topi (fun v_18 e_18 => ?_)
        obtain rfl : v_18 = (nI (38 * j_1)) := (e_18).trans (pk_mul 38 j_1)
        refine lv_iload_n hx hb dX8_image_39 rfl (lv_at hl 0 rfl) ?_
        refine lv_iadd hx hb dX8_image_40 ?_
        refine lv_topi (fun v_19 e_19 => ?_)
        obtain rfl : v_19 = (nI ((38 * j_1) + ii)) := (e_19).trans (nI_add (38 * j_1) ii)
        refine lv_aload_n hx hb dX8_image_41 rfl (lv_at hl 1 rfl) ?_
        refine va_get (D := (dC, dI)) (ci := 8) (v := .ref m_st) (C := RX8) (T := TX8) (N := 24) hx hb hts i_X8_image_X8 hown hK hP 0 rfl rfl 5 (by decide) (hts _ mx_X8_image_5) (fun _ h9 => h9) rfl dX8_image_42 ?_
        refine lv_iload_n hx hb dX8_image_45 rfl (lv_at hl 0 rfl) ?_
        refine va_iald hx hb hK hP 1 0 rfl rfl (vp_in_nI (by omega) (by omega)) dX8_image_46 ?_
        refine lv_topi (fun v_20 e_20 => ?_)
        have e_20 : v_20 = fs ii := e_20.trans (congrArg fs (nI_clamp (by omega)))
        refine va_iast hx hb hK hP hD hS 3 0 rfl rfl (vp_in_nI (by omega) (by omega)) dX8_image_47 (fun H locs hP hD hS => ?_)
        generalize hg_21 : upd w_10 ((nI ((38 * j_1) + ii)) : Int32).toNatClampNeg v_20 = g_21 at hP hD
        have hu_21 : g_21 = upd w_10 ((38 * j_1) + ii) v_20 := (by rw [← hg_21, nI_clamp (by omega)])
        have hP : va_P (dC, dI) vwCl [(xo_8_rrriirrriiiiiiirrirrrrri mo m_la m_sz m_it ms mt m_st m_mv m_tp (nI mz) ml (nI mp) mk mv mb mw m_rd m_ac (nI ma) m_as m_wo m_ik m_ke m_tr (nI mx)), (xI m_st cI 38 fs), (xI m_ik cZ 2 fk), (xI m_ke cI 76 g_21)] H := hP
        have hD := dto hP hD
        refine lv_iinc (v := (nI (ii + 1))) (lv' := [(2, .int (nI (ii + 1))), (0, .ref mo), (1, .int (nI j_1))]) hx hb dX8_image_48 hl (k := 0) rfl (nI_add ii 1) (by decide) rfl (fun ls hl => ?_)
        refine lv_goto (tgt := 25) hx hb dX8_image_51 (by decide) ?_
        exact ih (g_21) _ _ _ ⟨lv_sub hl [0, 1, 2] rfl, hP.sub (ws' := [(xo_8_rrriirrriiiiiiirrirrrrri mo m_la m_sz m_it ms mt m_st m_mv m_tp (nI mz) ml (nI mp) mk mv mb mw m_rd m_ac (nI ma) m_as m_wo m_ik m_ke m_tr (nI mx)), (xI m_st cI 38 fs), (xI m_ik cZ 2 fk), (xI m_ke cI 76 g_21)]) [0, 1, 2, 3] rfl, hD.sub (ws' := [(xo_8_rrriirrriiiiiiirrirrrrri mo m_la m_sz m_it ms mt m_st m_mv m_tp (nI mz) ml (nI mp) mk mv mb mw m_rd m_ac (nI ma) m_as m_wo m_ik m_ke m_tr (nI mx)), (xI m_st cI 38 fs), (xI m_ik cZ 2 fk), (xI m_ke cI 76 g_21)]) [0, 1, 2, 3] (by decide +kernel) rfl, hS, (cp_d (a := 38 * j_1) haf_0 (by omega) (e_20.trans (congrArg fs (nI_clamp (by omega)).symm)) hg_21), (cp_do (a := 38 * j_1) (n := 38) haf_1 (by omega) (by omega) hg_21)⟩
      · rintro w_10 H locs ls ⟨hl, hP, hD, hS, haf_0, haf_1⟩
        refine lv_iload_n hx hb dX8_image_25 rfl (lv_at hl 0 rfl) ?_
        refine lv_bipush (v := 38) hx hb dX8_image_26 (by decide) ?_
        refine lv_icmp_ge (tgt := 54) hx hb dX8_image_28 (by decide) (fun _ => ?_) (fun c_ => absurd ((nI_leI (a := 38) (b := 38) (by omega) (by omega)).mpr (by omega)) c_)
        refine lv_aload_n hx hb dX8_image_54 rfl (lv_at hl 1 rfl) ?_
        refine va_get (D := (dC, dI)) (ci := 8) (v := .ref m_ik) (C := RX8) (T := TX8) (N := 24) hx hb hts i_X8_image_X8 hown hK hP 0 rfl rfl 20 (by decide) (hts _ mx_X8_image_6) (fun _ h9 => h9) rfl dX8_image_55 ?_
        refine lv_iload_n hx hb dX8_image_58 rfl (lv_at hl 2 rfl) ?_
        refine lv_iconst (v := 1) hx hb dX8_image_59 (by decide) ?_
        refine va_zast hx hb hK hP hD hS 2 1 rfl rfl (vp_in_nI (by omega) (by omega)) dX8_image_60 (fun H locs hP hD hS => ?_)
        generalize hg_23 : upd fk ((nI j_1) : Int32).toNatClampNeg (vp_nar .boolean 1) = g_23 at hP hD
        have hkp := kp_set (n := j_1) hke (by omega) ⟨w9, k9, h9, hM, hkn1, h999⟩ hg_23 haf_0 haf_1
        have hP : va_P (dC, dI) vwCl [(xo_8_rrriirrriiiiiiirrirrrrri mo m_la m_sz m_it ms mt m_st m_mv m_tp (nI mz) ml (nI mp) mk mv mb mw m_rd m_ac (nI ma) m_as m_wo m_ik m_ke m_tr (nI mx)), (xI m_st cI 38 fs), (xI m_ik cZ 2 g_23), (xI m_ke cI 76 w_10)] H := hP
        have hD := dto hP hD
        refine lv_iconst (v := 1) hx hb dX8_image_61 (by decide) ?_
        have hX9 := cut2 (wc := [(xo_8_rrriirrriiiiiiirrirrrrri mo m_la m_sz m_it ms mt m_st m_mv m_tp (nI mz) ml (nI mp) mk mv mb mw m_rd m_ac (nI ma) m_as m_wo m_ik m_ke m_tr (nI mx)), (xI m_st cI 38 fs), (xI m_ik cZ 2 g_23), (xI m_ke cI 76 w_10)]) hP hD [0, 1, 2, 3] (by decide +kernel) rfl
        exact W.iret (v := 1) hx hb hr (fun t ht hW => ⟨⟨1, (), rfl, (lf_X8_image_4 hM hT h999 hT0 hke hK0 f_1_1_0 q_1 hj_1 c_4 hkn1 hw1 h01 haf_0 haf_1), ⟨g_23, w_10, va_Ht ht hX9.1, hX9.2, hkp, (fun h_ => absurd (hT0 h_).1 h01), (im_fact (r := 0) (by omega) (by decide) h01 hg_23 haf_0 haf_1), (im_fact (r := 1) (by omega) (by decide) h01 hg_23 haf_0 haf_1)⟩⟩, hS.F ht⟩) hS.2.2 dX8_image_62
    · skip
      have h00 : fs 0 = 0 := (hT0 c_4).1
      refine lv_ldc (own := RX8) (v := (-1000002)) hx hb hown (hts _ mx_X8_image_3) dX8_image_20 ?_
      have hX9 := cut2 (wc := [(xo_8_rrriirrriiiiiiirrirrrrri mo m_la m_sz m_it ms mt m_st m_mv m_tp (nI mz) ml (nI mp) mk mv mb mw m_rd m_ac (nI ma) m_as m_wo m_ik m_ke m_tr (nI mx)), (xI m_st cI 38 fs), (xI m_ik cZ 2 fk), (xI m_ke cI 76 fq)]) hP hD [0, 1, 2, 3] (by decide +kernel) rfl
      exact W.iret (v := (-1000002)) hx hb hr (fun t ht hW => ⟨⟨(-1000002), (), rfl, (lf_X8_image_7 hM hT h999 hT0 hke hK0 f_1_1_0 q_1 hj_1 c_4 h00), ⟨fk, fq, va_Ht ht hX9.1, hX9.2, hke, hK0, (lf_X8_image_5 hM hT h999 hT0 hke hK0 f_1_1_0 q_1 hj_1 c_4 h00), (lf_X8_image_6 hM hT h999 hT0 hke hK0 f_1_1_0 q_1 hj_1 c_4 h00)⟩⟩, hS.F ht⟩) hS.2.2 dX8_image_22
theorem lf_X8_restore_1 {mt : Int32} {ma : Nat} {fs : Nat → Int32} {w9 : Nat} {k9 : Nat} {h9 : Nat} {fk : Nat → Int32} {fq : Nat → Int32} {fc : Nat → Int32} {a0 : Int32} (hM : okM fs w9 k9 h9) (hT : ¬ mt = 0 → 1 ≤ k9) (h999 : h9 ≤ 999) (hT0 : mt = 0 → fs 0 = 0 ∧ ma = 0) (hac : okA fc ma) (hma : ma ≤ 24) (hke : okKP fk fq) (hK0 : mt = 0 → fk 0 = 0 ∧ fk 1 = 0) (f_1_0_0 : ((a0).toInt64 < 0 ∨ 1 < (a0).toInt64)) (q_1 : (a0 < 0 ∨ 1 < a0)) : m38 fs = n_rst (m38 fs) (imM fk fq 0) (imM fk fq 1) a0 := by
  first
  | (have rr := rst_done (r := m38 fs) (a := ma) (A := acM fc ma) hke (by omega) hkv haf_0
     obtain ⟨r1, r2, r3, r4⟩ := rr
     first | exact r1.symm | exact r2.symm | exact r4.symm | exact acM_0.trans r3.symm)
  | (have rr := rst_not (fk := fk) (fq := fq) (r := m38 fs) (a := ma) (A := acM fc ma) (by omega) (by grind)
     obtain ⟨r1, r2, r3, r4⟩ := rr
     first | exact r1.symm | exact r2.symm | exact r3.symm | exact r4.symm)
  | (have rr := rst_bad (I0 := imM fk fq 0) (I1 := imM fk fq 1) (r := m38 fs) (a := ma) (A := acM fc ma) (k := a0) (bd2_iff.mp (by assumption))
     obtain ⟨r1, r2, r3, r4⟩ := rr
     first | exact r1.symm | exact r2.symm | exact r3.symm | exact r4.symm)
theorem lf_X8_restore_2 {mt : Int32} {ma : Nat} {fs : Nat → Int32} {w9 : Nat} {k9 : Nat} {h9 : Nat} {fk : Nat → Int32} {fq : Nat → Int32} {fc : Nat → Int32} {a0 : Int32} (hM : okM fs w9 k9 h9) (hT : ¬ mt = 0 → 1 ≤ k9) (h999 : h9 ≤ 999) (hT0 : mt = 0 → fs 0 = 0 ∧ ma = 0) (hac : okA fc ma) (hma : ma ≤ 24) (hke : okKP fk fq) (hK0 : mt = 0 → fk 0 = 0 ∧ fk 1 = 0) (f_1_0_0 : ((a0).toInt64 < 0 ∨ 1 < (a0).toInt64)) (q_1 : (a0 < 0 ∨ 1 < a0)) : ma = m_rst ma (imM fk fq 0) (imM fk fq 1) a0 := by
  first
  | (have rr := rst_done (r := m38 fs) (a := ma) (A := acM fc ma) hke (by omega) hkv haf_0
     obtain ⟨r1, r2, r3, r4⟩ := rr
     first | exact r1.symm | exact r2.symm | exact r4.symm | exact acM_0.trans r3.symm)
  | (have rr := rst_not (fk := fk) (fq := fq) (r := m38 fs) (a := ma) (A := acM fc ma) (by omega) (by grind)
     obtain ⟨r1, r2, r3, r4⟩ := rr
     first | exact r1.symm | exact r2.symm | exact r3.symm | exact r4.symm)
  | (have rr := rst_bad (I0 := imM fk fq 0) (I1 := imM fk fq 1) (r := m38 fs) (a := ma) (A := acM fc ma) (k := a0) (bd2_iff.mp (by assumption))
     obtain ⟨r1, r2, r3, r4⟩ := rr
     first | exact r1.symm | exact r2.symm | exact r3.symm | exact r4.symm)
theorem lf_X8_restore_3 {mt : Int32} {ma : Nat} {fs : Nat → Int32} {w9 : Nat} {k9 : Nat} {h9 : Nat} {fk : Nat → Int32} {fq : Nat → Int32} {fc : Nat → Int32} {a0 : Int32} (hM : okM fs w9 k9 h9) (hT : ¬ mt = 0 → 1 ≤ k9) (h999 : h9 ≤ 999) (hT0 : mt = 0 → fs 0 = 0 ∧ ma = 0) (hac : okA fc ma) (hma : ma ≤ 24) (hke : okKP fk fq) (hK0 : mt = 0 → fk 0 = 0 ∧ fk 1 = 0) (f_1_0_0 : ((a0).toInt64 < 0 ∨ 1 < (a0).toInt64)) (q_1 : (a0 < 0 ∨ 1 < a0)) : acM fc ma = c_rst (acM fc ma) (imM fk fq 0) (imM fk fq 1) a0 := by
  first
  | (have rr := rst_done (r := m38 fs) (a := ma) (A := acM fc ma) hke (by omega) hkv haf_0
     obtain ⟨r1, r2, r3, r4⟩ := rr
     first | exact r1.symm | exact r2.symm | exact r4.symm | exact acM_0.trans r3.symm)
  | (have rr := rst_not (fk := fk) (fq := fq) (r := m38 fs) (a := ma) (A := acM fc ma) (by omega) (by grind)
     obtain ⟨r1, r2, r3, r4⟩ := rr
     first | exact r1.symm | exact r2.symm | exact r3.symm | exact r4.symm)
  | (have rr := rst_bad (I0 := imM fk fq 0) (I1 := imM fk fq 1) (r := m38 fs) (a := ma) (A := acM fc ma) (k := a0) (bd2_iff.mp (by assumption))
     obtain ⟨r1, r2, r3, r4⟩ := rr
     first | exact r1.symm | exact r2.symm | exact r3.symm | exact r4.symm)
theorem lf_X8_restore_4 {mt : Int32} {ma : Nat} {fs : Nat → Int32} {w9 : Nat} {k9 : Nat} {h9 : Nat} {fk : Nat → Int32} {fq : Nat → Int32} {fc : Nat → Int32} {a0 : Int32} (hM : okM fs w9 k9 h9) (hT : ¬ mt = 0 → 1 ≤ k9) (h999 : h9 ≤ 999) (hT0 : mt = 0 → fs 0 = 0 ∧ ma = 0) (hac : okA fc ma) (hma : ma ≤ 24) (hke : okKP fk fq) (hK0 : mt = 0 → fk 0 = 0 ∧ fk 1 = 0) (f_1_0_0 : ((a0).toInt64 < 0 ∨ 1 < (a0).toInt64)) (q_1 : (a0 < 0 ∨ 1 < a0)) : (-1000001) = (a_rst (imM fk fq 0) (imM fk fq 1) a0) := by
  first
  | (have rr := rst_done (r := m38 fs) (a := ma) (A := acM fc ma) hke (by omega) hkv haf_0
     obtain ⟨r1, r2, r3, r4⟩ := rr
     first | exact r1.symm | exact r2.symm | exact r4.symm | exact acM_0.trans r3.symm)
  | (have rr := rst_not (fk := fk) (fq := fq) (r := m38 fs) (a := ma) (A := acM fc ma) (by omega) (by grind)
     obtain ⟨r1, r2, r3, r4⟩ := rr
     first | exact r1.symm | exact r2.symm | exact r3.symm | exact r4.symm)
  | (have rr := rst_bad (I0 := imM fk fq 0) (I1 := imM fk fq 1) (r := m38 fs) (a := ma) (A := acM fc ma) (k := a0) (bd2_iff.mp (by assumption))
     obtain ⟨r1, r2, r3, r4⟩ := rr
     first | exact r1.symm | exact r2.symm | exact r3.symm | exact r4.symm)
theorem lf_X8_restore_5 {mt : Int32} {ma : Nat} {fs : Nat → Int32} {w9 : Nat} {k9 : Nat} {h9 : Nat} {fk : Nat → Int32} {fq : Nat → Int32} {fc : Nat → Int32} {j_1 : Nat} {v_4 : Int32} {w_11 : Nat → Int32} (hM : okM fs w9 k9 h9) (hT : ¬ mt = 0 → 1 ≤ k9) (h999 : h9 ≤ 999) (hT0 : mt = 0 → fs 0 = 0 ∧ ma = 0) (hac : okA fc ma) (hma : ma ≤ 24) (hke : okKP fk fq) (hK0 : mt = 0 → fk 0 = 0 ∧ fk 1 = 0) (f_1_1_0 : (¬ (((nI j_1)).toInt64 < 0 ∨ 1 < ((nI j_1)).toInt64))) (q_1 : ¬ ((nI j_1) < 0 ∨ 1 < (nI j_1))) (hj_1 : j_1 ≤ 1) (e_4 : v_4 = fk j_1) (c_5 : ¬ (v_4 = 0)) (haf_0 : (∀ j : Nat, j < 38 → w_11 j = fq (38 * j_1 + j))) (hkv : ¬ fk j_1 = 0) : m38 w_11 = n_rst (m38 fs) (imM fk fq 0) (imM fk fq 1) (nI j_1) := by
  first
  | (have rr := rst_done (r := m38 fs) (a := ma) (A := acM fc ma) hke (by omega) hkv haf_0
     obtain ⟨r1, r2, r3, r4⟩ := rr
     first | exact r1.symm | exact r2.symm | exact r4.symm | exact acM_0.trans r3.symm)
  | (have rr := rst_not (fk := fk) (fq := fq) (r := m38 fs) (a := ma) (A := acM fc ma) (by omega) (by grind)
     obtain ⟨r1, r2, r3, r4⟩ := rr
     first | exact r1.symm | exact r2.symm | exact r3.symm | exact r4.symm)
  | (have rr := rst_bad (I0 := imM fk fq 0) (I1 := imM fk fq 1) (r := m38 fs) (a := ma) (A := acM fc ma) (k := a0) (bd2_iff.mp (by assumption))
     obtain ⟨r1, r2, r3, r4⟩ := rr
     first | exact r1.symm | exact r2.symm | exact r3.symm | exact r4.symm)
theorem lf_X8_restore_6 {mt : Int32} {ma : Nat} {fs : Nat → Int32} {w9 : Nat} {k9 : Nat} {h9 : Nat} {fk : Nat → Int32} {fq : Nat → Int32} {fc : Nat → Int32} {j_1 : Nat} {v_4 : Int32} {w_11 : Nat → Int32} (hM : okM fs w9 k9 h9) (hT : ¬ mt = 0 → 1 ≤ k9) (h999 : h9 ≤ 999) (hT0 : mt = 0 → fs 0 = 0 ∧ ma = 0) (hac : okA fc ma) (hma : ma ≤ 24) (hke : okKP fk fq) (hK0 : mt = 0 → fk 0 = 0 ∧ fk 1 = 0) (f_1_1_0 : (¬ (((nI j_1)).toInt64 < 0 ∨ 1 < ((nI j_1)).toInt64))) (q_1 : ¬ ((nI j_1) < 0 ∨ 1 < (nI j_1))) (hj_1 : j_1 ≤ 1) (e_4 : v_4 = fk j_1) (c_5 : ¬ (v_4 = 0)) (haf_0 : (∀ j : Nat, j < 38 → w_11 j = fq (38 * j_1 + j))) (hkv : ¬ fk j_1 = 0) : 0 = m_rst ma (imM fk fq 0) (imM fk fq 1) (nI j_1) := by
  first
  | (have rr := rst_done (r := m38 fs) (a := ma) (A := acM fc ma) hke (by omega) hkv haf_0
     obtain ⟨r1, r2, r3, r4⟩ := rr
     first | exact r1.symm | exact r2.symm | exact r4.symm | exact acM_0.trans r3.symm)
  | (have rr := rst_not (fk := fk) (fq := fq) (r := m38 fs) (a := ma) (A := acM fc ma) (by omega) (by grind)
     obtain ⟨r1, r2, r3, r4⟩ := rr
     first | exact r1.symm | exact r2.symm | exact r3.symm | exact r4.symm)
  | (have rr := rst_bad (I0 := imM fk fq 0) (I1 := imM fk fq 1) (r := m38 fs) (a := ma) (A := acM fc ma) (k := a0) (bd2_iff.mp (by assumption))
     obtain ⟨r1, r2, r3, r4⟩ := rr
     first | exact r1.symm | exact r2.symm | exact r3.symm | exact r4.symm)
theorem lf_X8_restore_7 {mt : Int32} {ma : Nat} {fs : Nat → Int32} {w9 : Nat} {k9 : Nat} {h9 : Nat} {fk : Nat → Int32} {fq : Nat → Int32} {fc : Nat → Int32} {j_1 : Nat} {v_4 : Int32} {w_11 : Nat → Int32} (hM : okM fs w9 k9 h9) (hT : ¬ mt = 0 → 1 ≤ k9) (h999 : h9 ≤ 999) (hT0 : mt = 0 → fs 0 = 0 ∧ ma = 0) (hac : okA fc ma) (hma : ma ≤ 24) (hke : okKP fk fq) (hK0 : mt = 0 → fk 0 = 0 ∧ fk 1 = 0) (f_1_1_0 : (¬ (((nI j_1)).toInt64 < 0 ∨ 1 < ((nI j_1)).toInt64))) (q_1 : ¬ ((nI j_1) < 0 ∨ 1 < (nI j_1))) (hj_1 : j_1 ≤ 1) (e_4 : v_4 = fk j_1) (c_5 : ¬ (v_4 = 0)) (haf_0 : (∀ j : Nat, j < 38 → w_11 j = fq (38 * j_1 + j))) (hkv : ¬ fk j_1 = 0) : acM fc 0 = c_rst (acM fc ma) (imM fk fq 0) (imM fk fq 1) (nI j_1) := by
  first
  | (have rr := rst_done (r := m38 fs) (a := ma) (A := acM fc ma) hke (by omega) hkv haf_0
     obtain ⟨r1, r2, r3, r4⟩ := rr
     first | exact r1.symm | exact r2.symm | exact r4.symm | exact acM_0.trans r3.symm)
  | (have rr := rst_not (fk := fk) (fq := fq) (r := m38 fs) (a := ma) (A := acM fc ma) (by omega) (by grind)
     obtain ⟨r1, r2, r3, r4⟩ := rr
     first | exact r1.symm | exact r2.symm | exact r3.symm | exact r4.symm)
  | (have rr := rst_bad (I0 := imM fk fq 0) (I1 := imM fk fq 1) (r := m38 fs) (a := ma) (A := acM fc ma) (k := a0) (bd2_iff.mp (by assumption))
     obtain ⟨r1, r2, r3, r4⟩ := rr
     first | exact r1.symm | exact r2.symm | exact r3.symm | exact r4.symm)
theorem lf_X8_restore_8 {mt : Int32} {ma : Nat} {fs : Nat → Int32} {w9 : Nat} {k9 : Nat} {h9 : Nat} {fk : Nat → Int32} {fq : Nat → Int32} {fc : Nat → Int32} {j_1 : Nat} {v_4 : Int32} {w_11 : Nat → Int32} (hM : okM fs w9 k9 h9) (hT : ¬ mt = 0 → 1 ≤ k9) (h999 : h9 ≤ 999) (hT0 : mt = 0 → fs 0 = 0 ∧ ma = 0) (hac : okA fc ma) (hma : ma ≤ 24) (hke : okKP fk fq) (hK0 : mt = 0 → fk 0 = 0 ∧ fk 1 = 0) (f_1_1_0 : (¬ (((nI j_1)).toInt64 < 0 ∨ 1 < ((nI j_1)).toInt64))) (q_1 : ¬ ((nI j_1) < 0 ∨ 1 < (nI j_1))) (hj_1 : j_1 ≤ 1) (e_4 : v_4 = fk j_1) (c_5 : ¬ (v_4 = 0)) (haf_0 : (∀ j : Nat, j < 38 → w_11 j = fq (38 * j_1 + j))) (hkv : ¬ fk j_1 = 0) : 1 = (a_rst (imM fk fq 0) (imM fk fq 1) (nI j_1)) := by
  first
  | (have rr := rst_done (r := m38 fs) (a := ma) (A := acM fc ma) hke (by omega) hkv haf_0
     obtain ⟨r1, r2, r3, r4⟩ := rr
     first | exact r1.symm | exact r2.symm | exact r4.symm | exact acM_0.trans r3.symm)
  | (have rr := rst_not (fk := fk) (fq := fq) (r := m38 fs) (a := ma) (A := acM fc ma) (by omega) (by grind)
     obtain ⟨r1, r2, r3, r4⟩ := rr
     first | exact r1.symm | exact r2.symm | exact r3.symm | exact r4.symm)
  | (have rr := rst_bad (I0 := imM fk fq 0) (I1 := imM fk fq 1) (r := m38 fs) (a := ma) (A := acM fc ma) (k := a0) (bd2_iff.mp (by assumption))
     obtain ⟨r1, r2, r3, r4⟩ := rr
     first | exact r1.symm | exact r2.symm | exact r3.symm | exact r4.symm)
theorem lf_X8_restore_9 {mt : Int32} {ma : Nat} {fs : Nat → Int32} {w9 : Nat} {k9 : Nat} {h9 : Nat} {fk : Nat → Int32} {fq : Nat → Int32} {fc : Nat → Int32} {j_1 : Nat} {v_4 : Int32} (hM : okM fs w9 k9 h9) (hT : ¬ mt = 0 → 1 ≤ k9) (h999 : h9 ≤ 999) (hT0 : mt = 0 → fs 0 = 0 ∧ ma = 0) (hac : okA fc ma) (hma : ma ≤ 24) (hke : okKP fk fq) (hK0 : mt = 0 → fk 0 = 0 ∧ fk 1 = 0) (f_1_1_0 : (¬ (((nI j_1)).toInt64 < 0 ∨ 1 < ((nI j_1)).toInt64))) (q_1 : ¬ ((nI j_1) < 0 ∨ 1 < (nI j_1))) (hj_1 : j_1 ≤ 1) (e_4 : v_4 = fk j_1) (c_5 : v_4 = 0) : m38 fs = n_rst (m38 fs) (imM fk fq 0) (imM fk fq 1) (nI j_1) := by
  first
  | (have rr := rst_done (r := m38 fs) (a := ma) (A := acM fc ma) hke (by omega) hkv haf_0
     obtain ⟨r1, r2, r3, r4⟩ := rr
     first | exact r1.symm | exact r2.symm | exact r4.symm | exact acM_0.trans r3.symm)
  | (have rr := rst_not (fk := fk) (fq := fq) (r := m38 fs) (a := ma) (A := acM fc ma) (by omega) (by grind)
     obtain ⟨r1, r2, r3, r4⟩ := rr
     first | exact r1.symm | exact r2.symm | exact r3.symm | exact r4.symm)
  | (have rr := rst_bad (I0 := imM fk fq 0) (I1 := imM fk fq 1) (r := m38 fs) (a := ma) (A := acM fc ma) (k := a0) (bd2_iff.mp (by assumption))
     obtain ⟨r1, r2, r3, r4⟩ := rr
     first | exact r1.symm | exact r2.symm | exact r3.symm | exact r4.symm)
theorem lf_X8_restore_10 {mt : Int32} {ma : Nat} {fs : Nat → Int32} {w9 : Nat} {k9 : Nat} {h9 : Nat} {fk : Nat → Int32} {fq : Nat → Int32} {fc : Nat → Int32} {j_1 : Nat} {v_4 : Int32} (hM : okM fs w9 k9 h9) (hT : ¬ mt = 0 → 1 ≤ k9) (h999 : h9 ≤ 999) (hT0 : mt = 0 → fs 0 = 0 ∧ ma = 0) (hac : okA fc ma) (hma : ma ≤ 24) (hke : okKP fk fq) (hK0 : mt = 0 → fk 0 = 0 ∧ fk 1 = 0) (f_1_1_0 : (¬ (((nI j_1)).toInt64 < 0 ∨ 1 < ((nI j_1)).toInt64))) (q_1 : ¬ ((nI j_1) < 0 ∨ 1 < (nI j_1))) (hj_1 : j_1 ≤ 1) (e_4 : v_4 = fk j_1) (c_5 : v_4 = 0) : ma = m_rst ma (imM fk fq 0) (imM fk fq 1) (nI j_1) := by
  first
  | (have rr := rst_done (r := m38 fs) (a := ma) (A := acM fc ma) hke (by omega) hkv haf_0
     obtain ⟨r1, r2, r3, r4⟩ := rr
     first | exact r1.symm | exact r2.symm | exact r4.symm | exact acM_0.trans r3.symm)
  | (have rr := rst_not (fk := fk) (fq := fq) (r := m38 fs) (a := ma) (A := acM fc ma) (by omega) (by grind)
     obtain ⟨r1, r2, r3, r4⟩ := rr
     first | exact r1.symm | exact r2.symm | exact r3.symm | exact r4.symm)
  | (have rr := rst_bad (I0 := imM fk fq 0) (I1 := imM fk fq 1) (r := m38 fs) (a := ma) (A := acM fc ma) (k := a0) (bd2_iff.mp (by assumption))
     obtain ⟨r1, r2, r3, r4⟩ := rr
     first | exact r1.symm | exact r2.symm | exact r3.symm | exact r4.symm)
theorem lf_X8_restore_11 {mt : Int32} {ma : Nat} {fs : Nat → Int32} {w9 : Nat} {k9 : Nat} {h9 : Nat} {fk : Nat → Int32} {fq : Nat → Int32} {fc : Nat → Int32} {j_1 : Nat} {v_4 : Int32} (hM : okM fs w9 k9 h9) (hT : ¬ mt = 0 → 1 ≤ k9) (h999 : h9 ≤ 999) (hT0 : mt = 0 → fs 0 = 0 ∧ ma = 0) (hac : okA fc ma) (hma : ma ≤ 24) (hke : okKP fk fq) (hK0 : mt = 0 → fk 0 = 0 ∧ fk 1 = 0) (f_1_1_0 : (¬ (((nI j_1)).toInt64 < 0 ∨ 1 < ((nI j_1)).toInt64))) (q_1 : ¬ ((nI j_1) < 0 ∨ 1 < (nI j_1))) (hj_1 : j_1 ≤ 1) (e_4 : v_4 = fk j_1) (c_5 : v_4 = 0) : acM fc ma = c_rst (acM fc ma) (imM fk fq 0) (imM fk fq 1) (nI j_1) := by
  first
  | (have rr := rst_done (r := m38 fs) (a := ma) (A := acM fc ma) hke (by omega) hkv haf_0
     obtain ⟨r1, r2, r3, r4⟩ := rr
     first | exact r1.symm | exact r2.symm | exact r4.symm | exact acM_0.trans r3.symm)
  | (have rr := rst_not (fk := fk) (fq := fq) (r := m38 fs) (a := ma) (A := acM fc ma) (by omega) (by grind)
     obtain ⟨r1, r2, r3, r4⟩ := rr
     first | exact r1.symm | exact r2.symm | exact r3.symm | exact r4.symm)
  | (have rr := rst_bad (I0 := imM fk fq 0) (I1 := imM fk fq 1) (r := m38 fs) (a := ma) (A := acM fc ma) (k := a0) (bd2_iff.mp (by assumption))
     obtain ⟨r1, r2, r3, r4⟩ := rr
     first | exact r1.symm | exact r2.symm | exact r3.symm | exact r4.symm)
theorem lf_X8_restore_12 {mt : Int32} {ma : Nat} {fs : Nat → Int32} {w9 : Nat} {k9 : Nat} {h9 : Nat} {fk : Nat → Int32} {fq : Nat → Int32} {fc : Nat → Int32} {j_1 : Nat} {v_4 : Int32} (hM : okM fs w9 k9 h9) (hT : ¬ mt = 0 → 1 ≤ k9) (h999 : h9 ≤ 999) (hT0 : mt = 0 → fs 0 = 0 ∧ ma = 0) (hac : okA fc ma) (hma : ma ≤ 24) (hke : okKP fk fq) (hK0 : mt = 0 → fk 0 = 0 ∧ fk 1 = 0) (f_1_1_0 : (¬ (((nI j_1)).toInt64 < 0 ∨ 1 < ((nI j_1)).toInt64))) (q_1 : ¬ ((nI j_1) < 0 ∨ 1 < (nI j_1))) (hj_1 : j_1 ≤ 1) (e_4 : v_4 = fk j_1) (c_5 : v_4 = 0) : (-1000002) = (a_rst (imM fk fq 0) (imM fk fq 1) (nI j_1)) := by
  first
  | (have rr := rst_done (r := m38 fs) (a := ma) (A := acM fc ma) hke (by omega) hkv haf_0
     obtain ⟨r1, r2, r3, r4⟩ := rr
     first | exact r1.symm | exact r2.symm | exact r4.symm | exact acM_0.trans r3.symm)
  | (have rr := rst_not (fk := fk) (fq := fq) (r := m38 fs) (a := ma) (A := acM fc ma) (by omega) (by grind)
     obtain ⟨r1, r2, r3, r4⟩ := rr
     first | exact r1.symm | exact r2.symm | exact r3.symm | exact r4.symm)
  | (have rr := rst_bad (I0 := imM fk fq 0) (I1 := imM fk fq 1) (r := m38 fs) (a := ma) (A := acM fc ma) (k := a0) (bd2_iff.mp (by assumption))
     obtain ⟨r1, r2, r3, r4⟩ := rr
     first | exact r1.symm | exact r2.symm | exact r3.symm | exact r4.symm)
set_option maxHeartbeats 4000000 in
set_option maxRecDepth 100000 in
theorem r_X8_restore (l : Launch) (dC : Nat → ClassId) (dI : Nat → Nat → Nat) (cI cZ cL cJ : ClassId) (sz : Nat) (mo : Nat) (m_la : Nat) (m_sz : Nat) (m_it : Nat) (m_st : Nat) (m_mv : Nat) (m_tp : Nat) (m_rd : Nat) (m_ac : Nat) (m_as : Nat) (m_wo : Nat) (m_ik : Nat) (m_ke : Nat) (m_tr : Nat) (ms : Int32) (mt : Int32) (ml : Int32) (mk : Int32) (mv : Int32) (mb : Int32) (mw : Int32) (mz : Nat) (mp : Nat) (ma : Nat) (mx : Nat) (fs : Nat → Int32) (w9 : Nat) (k9 : Nat) (h9 : Nat) (fk : Nat → Int32) (fq : Nat → Int32) (fc : Nat → Int32) (a0 : Int32) (hM : okM fs w9 k9 h9) (hT : ¬ mt = 0 → 1 ≤ k9) (h999 : h9 ≤ 999) (hT0 : mt = 0 → fs 0 = 0 ∧ ma = 0) (hac : okA fc ma) (hma : ma ≤ 24) (hke : okKP fk fq) (hK0 : mt = 0 → fk 0 = 0 ∧ fk 1 = 0) : Met l yX8_restore wsX8_restore ({ frames := 1, cells := 0, slots := 0, locals := 25 }) (va_Pc [.ref mo, .int a0] (fun U => U.heap.size = sz ∧ va_P (dC, dI) vwCl [(xo_8_rrriirrriiiiiiirrirrrrri mo m_la m_sz m_it ms mt m_st m_mv m_tp (nI mz) ml (nI mp) mk mv mb mw m_rd m_ac (nI ma) m_as m_wo m_ik m_ke m_tr (nI mx)), (xI m_st cI 38 fs), (xI m_ik cZ 2 fk), (xI m_ke cI 76 fq), (xI m_ac cI 912 fc)] U.heap ∧ va_K (dC, dI) vwCl [(cI, .int), (cZ, .boolean), (cL, .object RX3), (cJ, .array .int)] U ∧ va_D (fun _ => True) [(xo_8_rrriirrriiiiiiirrirrrrri mo m_la m_sz m_it ms mt m_st m_mv m_tp (nI mz) ml (nI mp) mk mv mb mw m_rd m_ac (nI ma) m_as m_wo m_ik m_ke m_tr (nI mx)), (xI m_st cI 38 fs), (xI m_ik cZ 2 fk), (xI m_ke cI 76 fq), (xI m_ac cI 912 fc)])) (va_Qi (fun r (_ : Unit) => r = (a_rst (imM fk fq 0) (imM fk fq 1) a0)) (fun (_ : Unit) t => ∃ (fsn : Nat → Int32) (man : Nat) (w9n : Nat) (k9n : Nat) (h9n : Nat), va_P (dC, dI) vwCl [(xo_8_rrriirrriiiiiiirrirrrrri mo m_la m_sz m_it ms mt m_st m_mv m_tp (nI mz) ml (nI mp) mk mv mb mw m_rd m_ac (nI man) m_as m_wo m_ik m_ke m_tr (nI mx)), (xI m_st cI 38 fsn), (xI m_ik cZ 2 fk), (xI m_ke cI 76 fq), (xI m_ac cI 912 fc)] t.heap ∧ va_D (va_A [(xo_8_rrriirrriiiiiiirrirrrrri mo m_la m_sz m_it ms mt m_st m_mv m_tp (nI mz) ml (nI mp) mk mv mb mw m_rd m_ac (nI ma) m_as m_wo m_ik m_ke m_tr (nI mx)), (xI m_st cI 38 fs), (xI m_ik cZ 2 fk), (xI m_ke cI 76 fq), (xI m_ac cI 912 fc)] sz) [(xo_8_rrriirrriiiiiiirrirrrrri mo m_la m_sz m_it ms mt m_st m_mv m_tp (nI mz) ml (nI mp) mk mv mb mw m_rd m_ac (nI man) m_as m_wo m_ik m_ke m_tr (nI mx)), (xI m_st cI 38 fsn), (xI m_ik cZ 2 fk), (xI m_ke cI 76 fq), (xI m_ac cI 912 fc)] ∧ okM fsn w9n k9n h9n ∧ (¬ mt = 0 → 1 ≤ k9n) ∧ h9n ≤ 999 ∧ okA fc man ∧ man ≤ 24 ∧ (mt = 0 → fsn 0 = 0 ∧ man = 0) ∧ m38 fsn = n_rst (m38 fs) (imM fk fq 0) (imM fk fq 1) a0 ∧ man = m_rst ma (imM fk fq 0) (imM fk fq 1) a0 ∧ acM fc man = c_rst (acM fc ma) (imM fk fq 0) (imM fk fq 1) a0) (va_A [(xo_8_rrriirrriiiiiiirrirrrrri mo m_la m_sz m_it ms mt m_st m_mv m_tp (nI mz) ml (nI mp) mk mv mb mw m_rd m_ac (nI ma) m_as m_wo m_ik m_ke m_tr (nI mx)), (xI m_st cI 38 fs), (xI m_ik cZ 2 fk), (xI m_ke cI 76 fq), (xI m_ac cI 912 fc)] sz)) 0 0 (va_A [(xo_8_rrriirrriiiiiiirrirrrrri mo m_la m_sz m_it ms mt m_st m_mv m_tp (nI mz) ml (nI mp) mk mv mb mw m_rd m_ac (nI ma) m_as m_wo m_ik m_ke m_tr (nI mx)), (xI m_st cI 38 fs), (xI m_ik cZ 2 fk), (xI m_ke cI 76 fq), (xI m_ac cI 912 fc)] sz) := by
  refine Met.ofW (cc := cX8_restore) (maxL := 3) (ret := (some .int)) (by decide) rfl ?_
  intro p e s m args below meth c s₁ B hml hv
  obtain ⟨rfl, hsz, hP, hK, hD0⟩ := hv
  have hx := B.exec
  have hb := B.bytes
  have hr := B.returns
  have hts := atoms_spec (ws := wsX8_restore) B.pre
  have hown : s.vm.findClass RX8 = some m.cls := findClass_of_methodNamed B.named
  have hlocks := B.notSynchronized
  subst hsz
  have hD := hD0.self (sz := s.heap.size)
  generalize hAe : va_A [(xo_8_rrriirrriiiiiiirrirrrrri mo m_la m_sz m_it ms mt m_st m_mv m_tp (nI mz) ml (nI mp) mk mv mb mw m_rd m_ac (nI ma) m_as m_wo m_ik m_ke m_tr (nI mx)), (xI m_st cI 38 fs), (xI m_ik cZ 2 fk), (xI m_ke cI 76 fq), (xI m_ac cI 912 fc)] s.heap.size = A at hD ⊢
  have hA : ∀ q : Nat, s.heap.size ≤ q → A q := fun q h => by rw [← hAe]; exact Or.inr h
  have hS : va_S A s.heap s.heap [] := va_S.rf
  have hP : va_P (dC, dI) vwCl [(xo_8_rrriirrriiiiiiirrirrrrri mo m_la m_sz m_it ms mt m_st m_mv m_tp (nI mz) ml (nI mp) mk mv mb mw m_rd m_ac (nI ma) m_as m_wo m_ik m_ke m_tr (nI mx)), (xI m_st cI 38 fs), (xI m_ik cZ 2 fk), (xI m_ke cI 76 fq), (xI m_ac cI 912 fc)] s.heap := hP
  have hl := lv_entry ([.ref mo, .int a0]) (n := 3) (Nat.le_of_ble_eq_true rfl)
  rw [lg_entry_eq]
  generalize (lg_sl ([.ref mo, .int a0]) ++ List.replicate (3 - (lg_sl ([.ref mo, .int a0])).length) Slot.unset).toArray = ls at hl ⊢
  have hl : lv_has ls 3 [(0, .ref mo), (1, .int a0)] := hl
  have hk6 := hM.2.2.2.2.1
  have hw6 := hM.2.2.2.1
  refine lv_iload_n hx hb dX8_restore_0 rfl (lv_at hl 1 rfl) ?_
  refine lv_i2l hx hb dX8_restore_1 rfl ?_
  refine lv_lconst (v := 0) hx hb dX8_restore_2 (by decide) ?_
  refine lv_lconst (v := 1) hx hb dX8_restore_3 (by decide) ?_
  have hPc_1 := hP.sub (ws' := []) [] rfl
  refine vp_callSi (W.runS (As := [.long (a0).toInt64, .long 0, .long 1]) (rest := []) ⟨hx, hb, hml, hown, hts⟩ (r_X8_in l dC dI cI cZ cL cJ ((a0).toInt64) 0 1 ) (va_cwS 3 hts gX8_restore_X8_in rfl rfl rfl (by decide +kernel) ⟨Nat.le_of_ble_eq_true rfl, Nat.le_of_ble_eq_true rfl⟩) (psP hK hPc_1) rfl rfl hl.1 rfl (lv_room (Nat.le_of_ble_eq_true rfl)) dX8_restore_4 ⟨Nat.le_of_ble_eq_true rfl, Nat.le_of_ble_eq_true rfl⟩) (fun r_1 h_1 => ?_)
  rcases h_1 with ⟨h_1, f_1_0_0⟩ | ⟨h_1, f_1_1_0⟩
  · subst h_1
    have q_1 : (a0 < 0 ∨ 1 < a0) := (in32 (x := a0) (l := 0) (u := 1) (by decide) (by decide)).mp f_1_0_0
    refine lv_if_ne (tgt := 13) hx hb dX8_restore_7 (by decide) (fun c_ => absurd (by decide) c_) (fun _ => ?_)
    refine lv_ldc (own := RX8) (v := (-1000001)) hx hb hown (hts _ mx_X8_restore_1) dX8_restore_10 ?_
    have hX9 := cut2 (wc := [(xo_8_rrriirrriiiiiiirrirrrrri mo m_la m_sz m_it ms mt m_st m_mv m_tp (nI mz) ml (nI mp) mk mv mb mw m_rd m_ac (nI ma) m_as m_wo m_ik m_ke m_tr (nI mx)), (xI m_st cI 38 fs), (xI m_ik cZ 2 fk), (xI m_ke cI 76 fq), (xI m_ac cI 912 fc)]) hP hD [0, 1, 2, 3, 4] (by decide +kernel) rfl
    exact W.iret (v := (-1000001)) hx hb hr (fun t ht hW => ⟨⟨(-1000001), (), rfl, (lf_X8_restore_4 hM hT h999 hT0 hac hma hke hK0 f_1_0_0 q_1), ⟨fs, ma, w9, k9, h9, va_Ht ht hX9.1, hX9.2, hM, hT, (by omega), hac, (by omega), hT0, (lf_X8_restore_1 hM hT h999 hT0 hac hma hke hK0 f_1_0_0 q_1), (lf_X8_restore_2 hM hT h999 hT0 hac hma hke hK0 f_1_0_0 q_1), (lf_X8_restore_3 hM hT h999 hT0 hac hma hke hK0 f_1_0_0 q_1)⟩⟩, hS.F ht⟩) hS.2.2 dX8_restore_12
  · subst h_1
    have q_1 : ¬ (a0 < 0 ∨ 1 < a0) := fun q_ => f_1_1_0 ((in32 (x := a0) (l := 0) (u := 1) (by decide) (by decide)).mpr q_)
    obtain ⟨j_1, hj_1, hl_1, rfl⟩ := in64 (lo := 0) (n := 1) rfl rfl (by decide) f_1_1_0
    refine lv_if_ne (tgt := 13) hx hb dX8_restore_7 (by decide) (fun _ => ?_) (fun c_ => absurd c_ (by decide))
    refine lv_aload_n hx hb dX8_restore_13 rfl (lv_at hl 0 rfl) ?_
    refine va_get (D := (dC, dI)) (ci := 8) (v := .ref m_ik) (C := RX8) (T := TX8) (N := 24) hx hb hts i_X8_restore_X8 hown hK hP 0 rfl rfl 20 (by decide) (hts _ mx_X8_restore_2) (fun _ h9 => h9) rfl dX8_restore_14 ?_
    refine lv_iload_n hx hb dX8_restore_17 rfl (lv_at hl 1 rfl) ?_
    refine va_zald hx hb hK hP 2 1 rfl rfl (vp_in_nI (by omega) (by omega)) dX8_restore_18 ?_
    refine lv_topi (fun v_4 e_4 => ?_)
    have e_4 : v_4 = fk j_1 := e_4.trans (congrArg fk (nI_clamp (by omega)))
    refine lv_if_ne (tgt := 25) hx hb dX8_restore_19 (by decide) (fun c_5 => ?_) (fun c_5 => ?_)
    · skip
      refine lv_iconst (v := 0) hx hb dX8_restore_25 (by decide) ?_
      refine lv_istore_n (lv' := [(2, .int 0), (0, .ref mo), (1, .int (nI j_1))]) hx hb dX8_restore_26 rfl hl (by decide) rfl (fun ls hl => ?_)
      refine lp_go (σ := (Nat → Int32)) (fun ii (st : (Nat → Int32)) H locs ls => match st with | w_11 => lv_has ls 3 [(2, .int (nI ii)), (0, .ref mo), (1, .int (nI j_1))] ∧ va_P (dC, dI) vwCl [(xo_8_rrriirrriiiiiiirrirrrrri mo m_la m_sz m_it ms mt m_st m_mv m_tp (nI mz) ml (nI mp) mk mv mb mw m_rd m_ac (nI ma) m_as m_wo m_ik m_ke m_tr (nI mx)), (xI m_st cI 38 w_11), (xI m_ik cZ 2 fk), (xI m_ke cI 76 fq), (xI m_ac cI 912 fc)] H ∧ va_D A [(xo_8_rrriirrriiiiiiirrirrrrri mo m_la m_sz m_it ms mt m_st m_mv m_tp (nI mz) ml (nI mp) mk mv mb mw m_rd m_ac (nI ma) m_as m_wo m_ik m_ke m_tr (nI mx)), (xI m_st cI 38 w_11), (xI m_ik cZ 2 fk), (xI m_ke cI 76 fq), (xI m_ac cI 912 fc)] ∧ va_S A s.heap H locs ∧ (∀ j : Nat, j < ii → w_11 j = fq (38 * j_1 + j))) 38 ?_ ?_ 0 (by omega) (fs) ⟨lv_sub hl [0, 1, 2] rfl, hP.sub (ws' := [(xo_8_rrriirrriiiiiiirrirrrrri mo m_la m_sz m_it ms mt m_st m_mv m_tp (nI mz) ml (nI mp) mk mv mb mw m_rd m_ac (nI ma) m_as m_wo m_ik m_ke m_tr (nI mx)), (xI m_st cI 38 fs), (xI m_ik cZ 2 fk), (xI m_ke cI 76 fq), (xI m_ac cI 912 fc)]) [0, 1, 2, 3, 4] rfl, hD.sub (ws' := [(xo_8_rrriirrriiiiiiirrirrrrri mo m_la m_sz m_it ms mt m_st m_mv m_tp (nI mz) ml (nI mp) mk mv mb mw m_rd m_ac (nI ma) m_as m_wo m_ik m_ke m_tr (nI mx)), (xI m_st cI 38 fs), (xI m_ik cZ 2 fk), (xI m_ke cI 76 fq), (xI m_ac cI 912 fc)]) [0, 1, 2, 3, 4] (by decide +kernel) rfl, hS, (fun j h_ => absurd h_ (Nat.not_lt_zero j))⟩
      · rintro ii w_11 H locs ls hii ⟨hl, hP, hD, hS, haf_0⟩ ih
        refine lv_iload_n hx hb dX8_restore_27 rfl (lv_at hl 0 rfl) ?_
        refine lv_bipush (v := 38) hx hb dX8_restore_28 (by decide) ?_
        refine lv_icmp_ge (tgt := 56) hx hb dX8_restore_30 (by decide) (fun c_ => absurd c_ (fun q_ => absurd ((nI_leI (a := 38) (b := ii) (by omega) (by omega)).mp q_) (by omega))) (fun _ => ?_)
        refine lv_aload_n hx hb dX8_restore_33 rfl (lv_at hl 1 rfl) ?_
        refine va_get (D := (dC, dI)) (ci := 8) (v := .ref m_st) (C := RX8) (T := TX8) (N := 24) hx hb hts i_X8_restore_X8 hown hK hP 0 rfl rfl 5 (by decide) (hts _ mx_X8_restore_4) (fun _ h9 => h9) rfl dX8_restore_34 ?_
        refine lv_iload_n hx hb dX8_restore_37 rfl (lv_at hl 0 rfl) ?_
        refine lv_aload_n hx hb dX8_restore_38 rfl (lv_at hl 1 rfl) ?_
        refine va_get (D := (dC, dI)) (ci := 8) (v := .ref m_ke) (C := RX8) (T := TX8) (N := 24) hx hb hts i_X8_restore_X8 hown hK hP 0 rfl rfl 21 (by decide) (hts _ mx_X8_restore_5) (fun _ h9 => h9) rfl dX8_restore_39 ?_
        refine lv_bipush (v := 38) hx hb dX8_restore_42 (by decide) ?_
        refine lv_iload_n hx hb dX8_restore_44 rfl (lv_at hl 2 rfl) ?_
        refine lv_imul hx hb dX8_restore_45 ?_
        refine lv_topi (fun v_19 e_19 => ?_)
        obtain rfl : v_19 = (nI (38 * j_1)) := (e_19).trans (pk_mul 38 j_1)
        refine lv_iload_n hx hb dX8_restore_46 rfl (lv_at hl 0 rfl) ?_
        refine lv_iadd hx hb dX8_restore_47 ?_
        refine lv_topi (fun v_20 e_20 => ?_)
        obtain rfl : v_20 = (nI ((38 * j_1) + ii)) := (e_20).trans (nI_add (38 * j_1) ii)
        refine va_iald hx hb hK hP 3 0 rfl rfl (vp_in_nI (by omega) (by omega)) dX8_restore_48 ?_
        refine lv_topi (fun v_21 e_21 => ?_)
        have e_21 : v_21 = fq ((38 * j_1) + ii) := e_21.trans (congrArg fq (nI_clamp (by omega)))
        refine va_iast hx hb hK hP hD hS 1 0 rfl rfl (vp_in_nI (by omega) (by omega)) dX8_restore_49 (fun H locs hP hD hS => ?_)
        generalize hg_22 : upd w_11 ((nI ii) : Int32).toNatClampNeg v_21 = g_22 at hP hD
        have hu_22 : g_22 = upd w_11 ii v_21 := (by rw [← hg_22, nI_clamp (by omega)])
        have hP : va_P (dC, dI) vwCl [(xo_8_rrriirrriiiiiiirrirrrrri mo m_la m_sz m_it ms mt m_st m_mv m_tp (nI mz) ml (nI mp) mk mv mb mw m_rd m_ac (nI ma) m_as m_wo m_ik m_ke m_tr (nI mx)), (xI m_st cI 38 g_22), (xI m_ik cZ 2 fk), (xI m_ke cI 76 fq), (xI m_ac cI 912 fc)] H := hP
        have hD := dto hP hD
        refine lv_iinc (v := (nI (ii + 1))) (lv' := [(2, .int (nI (ii + 1))), (0, .ref mo), (1, .int (nI j_1))]) hx hb dX8_restore_50 hl (k := 0) rfl (nI_add ii 1) (by decide) rfl (fun ls hl => ?_)
        refine lv_goto (tgt := 27) hx hb dX8_restore_53 (by decide) ?_
        exact ih (g_22) _ _ _ ⟨lv_sub hl [0, 1, 2] rfl, hP.sub (ws' := [(xo_8_rrriirrriiiiiiirrirrrrri mo m_la m_sz m_it ms mt m_st m_mv m_tp (nI mz) ml (nI mp) mk mv mb mw m_rd m_ac (nI ma) m_as m_wo m_ik m_ke m_tr (nI mx)), (xI m_st cI 38 g_22), (xI m_ik cZ 2 fk), (xI m_ke cI 76 fq), (xI m_ac cI 912 fc)]) [0, 1, 2, 3, 4] rfl, hD.sub (ws' := [(xo_8_rrriirrriiiiiiirrirrrrri mo m_la m_sz m_it ms mt m_st m_mv m_tp (nI mz) ml (nI mp) mk mv mb mw m_rd m_ac (nI ma) m_as m_wo m_ik m_ke m_tr (nI mx)), (xI m_st cI 38 g_22), (xI m_ik cZ 2 fk), (xI m_ke cI 76 fq), (xI m_ac cI 912 fc)]) [0, 1, 2, 3, 4] (by decide +kernel) rfl, hS, (cp_s (a := 38 * j_1) haf_0 (by omega) (e_21.trans (congrArg fq (nI_clamp (by omega)).symm)) hg_22)⟩
      · rintro w_11 H locs ls ⟨hl, hP, hD, hS, haf_0⟩
        refine lv_iload_n hx hb dX8_restore_27 rfl (lv_at hl 0 rfl) ?_
        refine lv_bipush (v := 38) hx hb dX8_restore_28 (by decide) ?_
        refine lv_icmp_ge (tgt := 56) hx hb dX8_restore_30 (by decide) (fun _ => ?_) (fun c_ => absurd ((nI_leI (a := 38) (b := 38) (by omega) (by omega)).mpr (by omega)) c_)
        have hkv : ¬ fk j_1 = 0 := fun q_ => c_5 (e_4.trans q_)
        obtain ⟨uw, uk, uh, uM, uk1, uh9⟩ := okK_eq (hke j_1 (by omega) hkv) haf_0
        have hac0 := okA_0 fc
        refine lv_aload_n hx hb dX8_restore_56 rfl (lv_at hl 1 rfl) ?_
        refine lv_iconst (v := 0) hx hb dX8_restore_57 (by decide) ?_
        refine va_put (D := (dC, dI)) (ci := 8) (v := .int 0) (ty := .int) (C := RX8) (T := TX8) (N := 24) hx hb hts i_X8_restore_X8 tyX8 tyX8_ok nmX8 hown hK hP hD hS 0 rfl rfl 17 (by decide) (hts _ mx_X8_restore_6) (fun _ h9 => h9) rfl (by decide +kernel) rfl rfl (Nat.le_of_ble_eq_true rfl) dX8_restore_58 (fun H locs hP hD hS => ?_)
        have hP : va_P (dC, dI) vwCl [(xo_8_rrriirrriiiiiiirrirrrrri mo m_la m_sz m_it ms mt m_st m_mv m_tp (nI mz) ml (nI mp) mk mv mb mw m_rd m_ac 0 m_as m_wo m_ik m_ke m_tr (nI mx)), (xI m_st cI 38 w_11), (xI m_ik cZ 2 fk), (xI m_ke cI 76 fq), (xI m_ac cI 912 fc)] H := hP
        have hD := dto hP hD
        refine lv_iconst (v := 1) hx hb dX8_restore_61 (by decide) ?_
        have hX9 := cut2 (wc := [(xo_8_rrriirrriiiiiiirrirrrrri mo m_la m_sz m_it ms mt m_st m_mv m_tp (nI mz) ml (nI mp) mk mv mb mw m_rd m_ac 0 m_as m_wo m_ik m_ke m_tr (nI mx)), (xI m_st cI 38 w_11), (xI m_ik cZ 2 fk), (xI m_ke cI 76 fq), (xI m_ac cI 912 fc)]) hP hD [0, 1, 2, 3, 4] (by decide +kernel) rfl
        exact W.iret (v := 1) hx hb hr (fun t ht hW => ⟨⟨1, (), rfl, (lf_X8_restore_8 hM hT h999 hT0 hac hma hke hK0 f_1_1_0 q_1 hj_1 e_4 c_5 haf_0 hkv), ⟨w_11, 0, uw, uk, uh, va_Ht ht hX9.1, hX9.2, uM, (fun _ => uk1), (by omega), hac0, (by omega), (fun h_ => absurd (rs_01 (n := j_1) (by omega) (hK0 h_)) hkv), (lf_X8_restore_5 hM hT h999 hT0 hac hma hke hK0 f_1_1_0 q_1 hj_1 e_4 c_5 haf_0 hkv), (lf_X8_restore_6 hM hT h999 hT0 hac hma hke hK0 f_1_1_0 q_1 hj_1 e_4 c_5 haf_0 hkv), (lf_X8_restore_7 hM hT h999 hT0 hac hma hke hK0 f_1_1_0 q_1 hj_1 e_4 c_5 haf_0 hkv)⟩⟩, hS.F ht⟩) hS.2.2 dX8_restore_62
    · skip
      refine lv_ldc (own := RX8) (v := (-1000002)) hx hb hown (hts _ mx_X8_restore_3) dX8_restore_22 ?_
      have hX9 := cut2 (wc := [(xo_8_rrriirrriiiiiiirrirrrrri mo m_la m_sz m_it ms mt m_st m_mv m_tp (nI mz) ml (nI mp) mk mv mb mw m_rd m_ac (nI ma) m_as m_wo m_ik m_ke m_tr (nI mx)), (xI m_st cI 38 fs), (xI m_ik cZ 2 fk), (xI m_ke cI 76 fq), (xI m_ac cI 912 fc)]) hP hD [0, 1, 2, 3, 4] (by decide +kernel) rfl
      exact W.iret (v := (-1000002)) hx hb hr (fun t ht hW => ⟨⟨(-1000002), (), rfl, (lf_X8_restore_12 hM hT h999 hT0 hac hma hke hK0 f_1_1_0 q_1 hj_1 e_4 c_5), ⟨fs, ma, w9, k9, h9, va_Ht ht hX9.1, hX9.2, hM, hT, (by omega), hac, (by omega), hT0, (lf_X8_restore_9 hM hT h999 hT0 hac hma hke hK0 f_1_1_0 q_1 hj_1 e_4 c_5), (lf_X8_restore_10 hM hT h999 hT0 hac hma hke hK0 f_1_1_0 q_1 hj_1 e_4 c_5), (lf_X8_restore_11 hM hT h999 hT0 hac hma hke hK0 f_1_1_0 q_1 hj_1 e_4 c_5)⟩⟩, hS.F ht⟩) hS.2.2 dX8_restore_24
theorem lf_X8_as_1 {ms : Int32} {fs : Nat → Int32} {w9 : Nat} {k9 : Nat} {h9 : Nat} {a0 : Int32} {a1 : Int32} (hM : okM fs w9 k9 h9) (f_1_0_0 : ¬ sB (nI k9) a0) : ms = f_as (m38 fs) a0 a1 ms := by
  have g0 := @guS_M fs w9 k9 h9 hM
  have g1 := @th_M fs w9 k9 h9 hM
  have g2 := hM.1
  have g3 := hM.2.1
  have g4 := hM.2.2.1
  have g5 := hM.2.2.2.1
  have g6 := hM.2.2.2.2.1
  simp only [a_as, f_as, mm0, mm1, mm2, mm3, mm4, mm5, mm6, mm7] at *
  grind [nI_clamp, m38_at, sB_ok]
theorem lf_X8_as_2 {fs : Nat → Int32} {w9 : Nat} {k9 : Nat} {h9 : Nat} {a0 : Int32} {a1 : Int32} (hM : okM fs w9 k9 h9) (f_1_0_0 : ¬ sB (nI k9) a0) : (-1000001) = (a_as (m38 fs) a0 a1) := by
  have g0 := @guS_M fs w9 k9 h9 hM
  have g1 := @th_M fs w9 k9 h9 hM
  have g2 := hM.1
  have g3 := hM.2.1
  have g4 := hM.2.2.1
  have g5 := hM.2.2.2.1
  have g6 := hM.2.2.2.2.1
  simp only [a_as, f_as, mm0, mm1, mm2, mm3, mm4, mm5, mm6, mm7] at *
  grind [nI_clamp, m38_at, sB_ok]
theorem lf_X8_as_3 {ms : Int32} {fs : Nat → Int32} {w9 : Nat} {k9 : Nat} {h9 : Nat} {a1 : Int32} {j_1 : Nat} (hM : okM fs w9 k9 h9) (hj_1 : j_1 < k9) (hkn1 : 1 ≤ k9) (hw1 : 1 ≤ w9) (h01 : ¬ fs 0 = 0) (f_5_0_0 : ((a1).toInt64 < 0 ∨ 5 < (a1).toInt64)) (q_5 : (a1 < 0 ∨ 5 < a1)) : ms = f_as (m38 fs) (nI j_1) a1 ms := by
  have g0 := @guS_M fs w9 k9 h9 hM
  have g1 := @th_M fs w9 k9 h9 hM
  have g2 := hM.1
  have g3 := hM.2.1
  have g4 := hM.2.2.1
  have g5 := hM.2.2.2.1
  have g6 := hM.2.2.2.2.1
  simp only [a_as, f_as, mm0, mm1, mm2, mm3, mm4, mm5, mm6, mm7] at *
  grind [nI_clamp, m38_at, sB_ok]
theorem lf_X8_as_4 {fs : Nat → Int32} {w9 : Nat} {k9 : Nat} {h9 : Nat} {a1 : Int32} {j_1 : Nat} (hM : okM fs w9 k9 h9) (hj_1 : j_1 < k9) (hkn1 : 1 ≤ k9) (hw1 : 1 ≤ w9) (h01 : ¬ fs 0 = 0) (f_5_0_0 : ((a1).toInt64 < 0 ∨ 5 < (a1).toInt64)) (q_5 : (a1 < 0 ∨ 5 < a1)) : (-1000001) = (a_as (m38 fs) (nI j_1) a1) := by
  have g0 := @guS_M fs w9 k9 h9 hM
  have g1 := @th_M fs w9 k9 h9 hM
  have g2 := hM.1
  have g3 := hM.2.1
  have g4 := hM.2.2.1
  have g5 := hM.2.2.2.1
  have g6 := hM.2.2.2.2.1
  simp only [a_as, f_as, mm0, mm1, mm2, mm3, mm4, mm5, mm6, mm7] at *
  grind [nI_clamp, m38_at, sB_ok]
theorem lf_X8_as_5 {ms : Int32} {fs : Nat → Int32} {w9 : Nat} {k9 : Nat} {h9 : Nat} {j_1 : Nat} {j_5 : Nat} {v_9 : Int32} {msn_12 : Int32} {r_12 : Int32} (hM : okM fs w9 k9 h9) (hj_1 : j_1 < k9) (hkn1 : 1 ≤ k9) (hw1 : 1 ≤ w9) (h01 : ¬ fs 0 = 0) (f_5_1_0 : (¬ (((nI j_5)).toInt64 < 0 ∨ 5 < ((nI j_5)).toInt64))) (q_5 : ¬ ((nI j_5) < 0 ∨ 5 < (nI j_5))) (hj_5 : j_5 ≤ 5) (e_9 : v_9 = fs (14 + j_1)) (f_10_0_0 : ¬ isK v_9 (nI j_5)) (hF_12_0 : (msn_12 : Int32) = 3) (h_12 : r_12 = (-1000010 - 3)) : msn_12 = f_as (m38 fs) (nI j_1) (nI j_5) ms := by
  have g0 := @guS_M fs w9 k9 h9 hM
  have g1 := @th_M fs w9 k9 h9 hM
  have g2 := hM.1
  have g3 := hM.2.1
  have g4 := hM.2.2.1
  have g5 := hM.2.2.2.1
  have g6 := hM.2.2.2.2.1
  simp only [a_as, f_as, mm0, mm1, mm2, mm3, mm4, mm5, mm6, mm7] at *
  grind [nI_clamp, m38_at, sB_ok]
theorem lf_X8_as_6 {fs : Nat → Int32} {w9 : Nat} {k9 : Nat} {h9 : Nat} {j_1 : Nat} {j_5 : Nat} {v_9 : Int32} {msn_12 : Int32} {r_12 : Int32} (hM : okM fs w9 k9 h9) (hj_1 : j_1 < k9) (hkn1 : 1 ≤ k9) (hw1 : 1 ≤ w9) (h01 : ¬ fs 0 = 0) (f_5_1_0 : (¬ (((nI j_5)).toInt64 < 0 ∨ 5 < ((nI j_5)).toInt64))) (q_5 : ¬ ((nI j_5) < 0 ∨ 5 < (nI j_5))) (hj_5 : j_5 ≤ 5) (e_9 : v_9 = fs (14 + j_1)) (f_10_0_0 : ¬ isK v_9 (nI j_5)) (hF_12_0 : (msn_12 : Int32) = 3) (h_12 : r_12 = (-1000010 - 3)) : r_12 = (a_as (m38 fs) (nI j_1) (nI j_5)) := by
  have g0 := @guS_M fs w9 k9 h9 hM
  have g1 := @th_M fs w9 k9 h9 hM
  have g2 := hM.1
  have g3 := hM.2.1
  have g4 := hM.2.2.1
  have g5 := hM.2.2.2.1
  have g6 := hM.2.2.2.2.1
  simp only [a_as, f_as, mm0, mm1, mm2, mm3, mm4, mm5, mm6, mm7] at *
  grind [nI_clamp, m38_at, sB_ok]
theorem lf_X8_as_7 {ms : Int32} {fs : Nat → Int32} {w9 : Nat} {k9 : Nat} {h9 : Nat} {j_1 : Nat} {j_5 : Nat} {v_9 : Int32} {msn_14 : Int32} {r_14 : Int32} (hM : okM fs w9 k9 h9) (hj_1 : j_1 < k9) (hkn1 : 1 ≤ k9) (hw1 : 1 ≤ w9) (h01 : ¬ fs 0 = 0) (f_5_1_0 : (¬ (((nI j_5)).toInt64 < 0 ∨ 5 < ((nI j_5)).toInt64))) (q_5 : ¬ ((nI j_5) < 0 ∨ 5 < (nI j_5))) (hj_5 : j_5 ≤ 5) (e_9 : v_9 = fs (14 + j_1)) (f_10_1_0 : isK v_9 (nI j_5)) (hF_14_0 : (msn_14 : Int32) = 0) (h_14 : r_14 = (nI j_1)) : msn_14 = f_as (m38 fs) (nI j_1) (nI j_5) ms := by
  have g0 := @guS_M fs w9 k9 h9 hM
  have g1 := @th_M fs w9 k9 h9 hM
  have g2 := hM.1
  have g3 := hM.2.1
  have g4 := hM.2.2.1
  have g5 := hM.2.2.2.1
  have g6 := hM.2.2.2.2.1
  simp only [a_as, f_as, mm0, mm1, mm2, mm3, mm4, mm5, mm6, mm7] at *
  grind [nI_clamp, m38_at, sB_ok]
theorem lf_X8_as_8 {fs : Nat → Int32} {w9 : Nat} {k9 : Nat} {h9 : Nat} {j_1 : Nat} {j_5 : Nat} {v_9 : Int32} {msn_14 : Int32} {r_14 : Int32} (hM : okM fs w9 k9 h9) (hj_1 : j_1 < k9) (hkn1 : 1 ≤ k9) (hw1 : 1 ≤ w9) (h01 : ¬ fs 0 = 0) (f_5_1_0 : (¬ (((nI j_5)).toInt64 < 0 ∨ 5 < ((nI j_5)).toInt64))) (q_5 : ¬ ((nI j_5) < 0 ∨ 5 < (nI j_5))) (hj_5 : j_5 ≤ 5) (e_9 : v_9 = fs (14 + j_1)) (f_10_1_0 : isK v_9 (nI j_5)) (hF_14_0 : (msn_14 : Int32) = 0) (h_14 : r_14 = (nI j_1)) : r_14 = (a_as (m38 fs) (nI j_1) (nI j_5)) := by
  have g0 := @guS_M fs w9 k9 h9 hM
  have g1 := @th_M fs w9 k9 h9 hM
  have g2 := hM.1
  have g3 := hM.2.1
  have g4 := hM.2.2.1
  have g5 := hM.2.2.2.1
  have g6 := hM.2.2.2.2.1
  simp only [a_as, f_as, mm0, mm1, mm2, mm3, mm4, mm5, mm6, mm7] at *
  grind [nI_clamp, m38_at, sB_ok]
set_option maxHeartbeats 4000000 in
set_option maxRecDepth 100000 in
theorem r_X8_as (l : Launch) (dC : Nat → ClassId) (dI : Nat → Nat → Nat) (cI cZ cL cJ : ClassId) (sz : Nat) (mo : Nat) (m_la : Nat) (m_sz : Nat) (m_it : Nat) (m_st : Nat) (m_mv : Nat) (m_tp : Nat) (m_rd : Nat) (m_ac : Nat) (m_as : Nat) (m_wo : Nat) (m_ik : Nat) (m_ke : Nat) (m_tr : Nat) (ms : Int32) (mt : Int32) (ml : Int32) (mk : Int32) (mv : Int32) (mb : Int32) (mw : Int32) (mz : Nat) (mp : Nat) (ma : Nat) (mx : Nat) (fs : Nat → Int32) (w9 : Nat) (k9 : Nat) (h9 : Nat) (a0 : Int32) (a1 : Int32) (hM : okM fs w9 k9 h9) : Met l yX8_as wsX8_as ({ frames := 2, cells := 0, slots := 0, locals := 46 }) (va_Pc [.ref mo, .int a0, .int a1] (fun U => U.heap.size = sz ∧ va_P (dC, dI) vwCl [(xo_8_rrriirrriiiiiiirrirrrrri mo m_la m_sz m_it ms mt m_st m_mv m_tp (nI mz) ml (nI mp) mk mv mb mw m_rd m_ac (nI ma) m_as m_wo m_ik m_ke m_tr (nI mx)), (xI m_st cI 38 fs)] U.heap ∧ va_K (dC, dI) vwCl [(cI, .int), (cZ, .boolean), (cL, .object RX3), (cJ, .array .int)] U ∧ va_D (fun _ => True) [(xo_8_rrriirrriiiiiiirrirrrrri mo m_la m_sz m_it ms mt m_st m_mv m_tp (nI mz) ml (nI mp) mk mv mb mw m_rd m_ac (nI ma) m_as m_wo m_ik m_ke m_tr (nI mx)), (xI m_st cI 38 fs)])) (va_Qi (fun r (_ : Unit) => r = (a_as (m38 fs) a0 a1)) (fun (_ : Unit) t => ∃ (msn : Int32), va_P (dC, dI) vwCl [(xo_8_rrriirrriiiiiiirrirrrrri mo m_la m_sz m_it msn mt m_st m_mv m_tp (nI mz) ml (nI mp) mk mv mb mw m_rd m_ac (nI ma) m_as m_wo m_ik m_ke m_tr (nI mx)), (xI m_st cI 38 fs)] t.heap ∧ va_D (va_A [(xo_8_rrriirrriiiiiiirrirrrrri mo m_la m_sz m_it ms mt m_st m_mv m_tp (nI mz) ml (nI mp) mk mv mb mw m_rd m_ac (nI ma) m_as m_wo m_ik m_ke m_tr (nI mx)), (xI m_st cI 38 fs)] sz) [(xo_8_rrriirrriiiiiiirrirrrrri mo m_la m_sz m_it msn mt m_st m_mv m_tp (nI mz) ml (nI mp) mk mv mb mw m_rd m_ac (nI ma) m_as m_wo m_ik m_ke m_tr (nI mx)), (xI m_st cI 38 fs)] ∧ msn = f_as (m38 fs) a0 a1 ms) (va_A [(xo_8_rrriirrriiiiiiirrirrrrri mo m_la m_sz m_it ms mt m_st m_mv m_tp (nI mz) ml (nI mp) mk mv mb mw m_rd m_ac (nI ma) m_as m_wo m_ik m_ke m_tr (nI mx)), (xI m_st cI 38 fs)] sz)) 0 0 (va_A [(xo_8_rrriirrriiiiiiirrirrrrri mo m_la m_sz m_it ms mt m_st m_mv m_tp (nI mz) ml (nI mp) mk mv mb mw m_rd m_ac (nI ma) m_as m_wo m_ik m_ke m_tr (nI mx)), (xI m_st cI 38 fs)] sz) := by
  refine Met.ofW (cc := cX8_as) (maxL := 3) (ret := (some .int)) (by decide) rfl ?_
  intro p e s m args below meth c s₁ B hml hv
  obtain ⟨rfl, hsz, hP, hK, hD0⟩ := hv
  have hx := B.exec
  have hb := B.bytes
  have hr := B.returns
  have hts := atoms_spec (ws := wsX8_as) B.pre
  have hown : s.vm.findClass RX8 = some m.cls := findClass_of_methodNamed B.named
  have hlocks := B.notSynchronized
  subst hsz
  have hD := hD0.self (sz := s.heap.size)
  generalize hAe : va_A [(xo_8_rrriirrriiiiiiirrirrrrri mo m_la m_sz m_it ms mt m_st m_mv m_tp (nI mz) ml (nI mp) mk mv mb mw m_rd m_ac (nI ma) m_as m_wo m_ik m_ke m_tr (nI mx)), (xI m_st cI 38 fs)] s.heap.size = A at hD ⊢
  have hA : ∀ q : Nat, s.heap.size ≤ q → A q := fun q h => by rw [← hAe]; exact Or.inr h
  have hS : va_S A s.heap s.heap [] := va_S.rf
  have hP : va_P (dC, dI) vwCl [(xo_8_rrriirrriiiiiiirrirrrrri mo m_la m_sz m_it ms mt m_st m_mv m_tp (nI mz) ml (nI mp) mk mv mb mw m_rd m_ac (nI ma) m_as m_wo m_ik m_ke m_tr (nI mx)), (xI m_st cI 38 fs)] s.heap := hP
  have hl := lv_entry ([.ref mo, .int a0, .int a1]) (n := 3) (Nat.le_of_ble_eq_true rfl)
  rw [lg_entry_eq]
  generalize (lg_sl ([.ref mo, .int a0, .int a1]) ++ List.replicate (3 - (lg_sl ([.ref mo, .int a0, .int a1])).length) Slot.unset).toArray = ls at hl ⊢
  have hl : lv_has ls 3 [(0, .ref mo), (1, .int a0), (2, .int a1)] := hl
  have hk6 := hM.2.2.2.2.1
  have hw6 := hM.2.2.2.1
  refine lv_aload_n hx hb dX8_as_0 rfl (lv_at hl 0 rfl) ?_
  refine lv_iload_n hx hb dX8_as_1 rfl (lv_at hl 1 rfl) ?_
  have hPc_1 := hP
  refine vp_callSi (W.runV (As := [.int a0]) (rest := []) ⟨hx, hb, hml, hown, hts⟩ (r_X8_isSound l dC dI cI cZ cL cJ mo m_la m_sz m_it m_st m_mv m_tp m_rd m_ac m_as m_wo m_ik m_ke m_tr ms mt ml mk mv mb mw mz mp ma mx fs w9 k9 h9 a0 (hM)) (cwV 1 hts gX8_as_X8_isSound rfl rfl rfl (by decide +kernel) ⟨Nat.le_of_ble_eq_true rfl, Nat.le_of_ble_eq_true rfl⟩) (pvP 8 0 hK hP rfl rfl hPc_1) rfl rfl hl.1 rfl (lv_room (Nat.le_of_ble_eq_true rfl)) dX8_as_2 ⟨Nat.le_of_ble_eq_true rfl, Nat.le_of_ble_eq_true rfl⟩) (fun r_1 h_1 => ?_)
  rcases h_1 with ⟨h_1, f_1_0_0⟩ | ⟨h_1, f_1_1_0⟩
  · subst h_1
    refine lv_if_eq (tgt := 20) hx hb dX8_as_5 (by decide) (fun _ => ?_) (fun c_ => absurd (by decide) c_)
    refine lv_ldc (own := RX8) (v := (-1000001)) hx hb hown (hts _ mx_X8_as_2) dX8_as_20 ?_
    have hX9 := cut2 (wc := [(xo_8_rrriirrriiiiiiirrirrrrri mo m_la m_sz m_it ms mt m_st m_mv m_tp (nI mz) ml (nI mp) mk mv mb mw m_rd m_ac (nI ma) m_as m_wo m_ik m_ke m_tr (nI mx)), (xI m_st cI 38 fs)]) hP hD [0, 1] (by decide +kernel) rfl
    exact W.iret (v := (-1000001)) hx hb hr (fun t ht hW => ⟨⟨(-1000001), (), rfl, (lf_X8_as_2 hM f_1_0_0), ⟨ms, va_Ht ht hX9.1, hX9.2, (lf_X8_as_1 hM f_1_0_0)⟩⟩, hS.F ht⟩) hS.2.2 dX8_as_22
  · subst h_1
    obtain ⟨j_1, hj_1, rfl⟩ := vp_in_of f_1_1_0 (by omega)
    have hkn1 : 1 ≤ k9 := by omega
    have hw1 := hM.2.2.2.2.2.1.mp hkn1
    have h01 : ¬ fs 0 = 0 := cell_nz hM hkn1
    refine lv_if_eq (tgt := 20) hx hb dX8_as_5 (by decide) (fun c_ => absurd c_ (by decide)) (fun _ => ?_)
    refine lv_iload_n hx hb dX8_as_8 rfl (lv_at hl 2 rfl) ?_
    refine lv_i2l hx hb dX8_as_9 rfl ?_
    refine lv_lconst (v := 0) hx hb dX8_as_10 (by decide) ?_
    refine lv_ldc2 (own := RX8) (v := 5) hx hb hown (hts _ mx_X8_as_1) dX8_as_11 ?_
    have hPc_5 := hP.sub (ws' := []) [] rfl
    refine vp_callSi (W.runS (As := [.long (a1).toInt64, .long 0, .long 5]) (rest := []) ⟨hx, hb, hml, hown, hts⟩ (r_X8_in l dC dI cI cZ cL cJ ((a1).toInt64) 0 5 ) (va_cwS 3 hts gX8_as_X8_in rfl rfl rfl (by decide +kernel) ⟨Nat.le_of_ble_eq_true rfl, Nat.le_of_ble_eq_true rfl⟩) (psP hK hPc_5) rfl rfl hl.1 rfl (lv_room (Nat.le_of_ble_eq_true rfl)) dX8_as_14 ⟨Nat.le_of_ble_eq_true rfl, Nat.le_of_ble_eq_true rfl⟩) (fun r_5 h_5 => ?_)
    rcases h_5 with ⟨h_5, f_5_0_0⟩ | ⟨h_5, f_5_1_0⟩
    · subst h_5
      have q_5 : (a1 < 0 ∨ 5 < a1) := (in32 (x := a1) (l := 0) (u := 5) (by decide) (by decide)).mp f_5_0_0
      refine lv_if_ne (tgt := 23) hx hb dX8_as_17 (by decide) (fun c_ => absurd (by decide) c_) (fun _ => ?_)
      refine lv_ldc (own := RX8) (v := (-1000001)) hx hb hown (hts _ mx_X8_as_2) dX8_as_20 ?_
      have hX9 := cut2 (wc := [(xo_8_rrriirrriiiiiiirrirrrrri mo m_la m_sz m_it ms mt m_st m_mv m_tp (nI mz) ml (nI mp) mk mv mb mw m_rd m_ac (nI ma) m_as m_wo m_ik m_ke m_tr (nI mx)), (xI m_st cI 38 fs)]) hP hD [0, 1] (by decide +kernel) rfl
      exact W.iret (v := (-1000001)) hx hb hr (fun t ht hW => ⟨⟨(-1000001), (), rfl, (lf_X8_as_4 hM hj_1 hkn1 hw1 h01 f_5_0_0 q_5), ⟨ms, va_Ht ht hX9.1, hX9.2, (lf_X8_as_3 hM hj_1 hkn1 hw1 h01 f_5_0_0 q_5)⟩⟩, hS.F ht⟩) hS.2.2 dX8_as_22
    · subst h_5
      have q_5 : ¬ (a1 < 0 ∨ 5 < a1) := fun q_ => f_5_1_0 ((in32 (x := a1) (l := 0) (u := 5) (by decide) (by decide)).mpr q_)
      obtain ⟨j_5, hj_5, hl_5, rfl⟩ := in64 (lo := 0) (n := 5) rfl rfl (by decide) f_5_1_0
      refine lv_if_ne (tgt := 23) hx hb dX8_as_17 (by decide) (fun _ => ?_) (fun c_ => absurd c_ (by decide))
      refine lv_aload_n hx hb dX8_as_23 rfl (lv_at hl 0 rfl) ?_
      refine va_get (D := (dC, dI)) (ci := 8) (v := .ref m_st) (C := RX8) (T := TX8) (N := 24) hx hb hts i_X8_as_X8 hown hK hP 0 rfl rfl 5 (by decide) (hts _ mx_X8_as_3) (fun _ h9 => h9) rfl dX8_as_24 ?_
      refine lv_bipush (v := 14) hx hb dX8_as_27 (by decide) ?_
      refine lv_iload_n hx hb dX8_as_29 rfl (lv_at hl 1 rfl) ?_
      refine lv_iadd hx hb dX8_as_30 ?_
      refine lv_topi (fun v_8 e_8 => ?_)
      obtain rfl : v_8 = (nI (14 + j_1)) := (e_8).trans (nI_add 14 j_1)
      refine va_iald hx hb hK hP 1 0 rfl rfl (vp_in_nI (by omega) (by omega)) dX8_as_31 ?_
      refine lv_topi (fun v_9 e_9 => ?_)
      have e_9 : v_9 = fs (14 + j_1) := e_9.trans (congrArg fs (nI_clamp (by omega)))
      refine lv_iload_n hx hb dX8_as_32 rfl (lv_at hl 2 rfl) ?_
      have hPc_10 := hP.sub (ws' := []) [] rfl
      refine vp_callSi (W.runS (As := [.int v_9, .int (nI j_5)]) (rest := []) ⟨hx, hb, hml, hown, hts⟩ (r_X8_isKind l dC dI cI cZ cL cJ v_9 (nI j_5) ) (va_cwS 2 hts gX8_as_X8_isKind rfl rfl rfl (by decide +kernel) ⟨Nat.le_of_ble_eq_true rfl, Nat.le_of_ble_eq_true rfl⟩) (psP hK hPc_10) rfl rfl hl.1 rfl (lv_room (Nat.le_of_ble_eq_true rfl)) dX8_as_33 ⟨Nat.le_of_ble_eq_true rfl, Nat.le_of_ble_eq_true rfl⟩) (fun r_10 h_10 => ?_)
      rcases h_10 with ⟨h_10, f_10_0_0⟩ | ⟨h_10, f_10_1_0⟩
      · subst h_10
        refine lv_if_eq (tgt := 47) hx hb dX8_as_36 (by decide) (fun _ => ?_) (fun c_ => absurd (by decide) c_)
        refine lv_aload_n hx hb dX8_as_47 rfl (lv_at hl 0 rfl) ?_
        refine lv_iconst (v := 3) hx hb dX8_as_48 (by decide) ?_
        have hc_12 := cutW (wc := [(xo_8_rrriirrriiiiiiirrirrrrri mo m_la m_sz m_it ms mt m_st m_mv m_tp (nI mz) ml (nI mp) mk mv mb mw m_rd m_ac (nI ma) m_as m_wo m_ik m_ke m_tr (nI mx))]) hP hD hS hA [0] (by decide +kernel) rfl
        refine va_calli (va_runV (As := [.int 3]) (rest := []) ⟨hx, hb, hml, hown, hts⟩ (r_X8_find l dC dI cI cZ cL cJ s.heap.size mo m_la m_sz m_it m_st m_mv m_tp m_rd m_ac m_as m_wo m_ik m_ke m_tr ms mt ml mk mv mb mw mz mp ma mx 3 ) (cwV 1 hts gX8_as_X8_find rfl rfl rfl (by decide +kernel) ⟨Nat.le_of_ble_eq_true rfl, Nat.le_of_ble_eq_true rfl⟩) (pvW 8 0 hK hP rfl rfl hc_12) rfl rfl hl.1 rfl (lv_room (Nat.le_of_ble_eq_true rfl)) dX8_as_49 ⟨Nat.le_of_ble_eq_true rfl, Nat.le_of_ble_eq_true rfl⟩) hS (fun q _ h => hc_12.2.2 q h) hc_12.2.2 (fun r_12 u_12 t_12 H1 locs ht hvm h_12 hB hz1 hk1 hS => ?_)
        refine xl_1_3 hB (fun msn_12 hP1 hD1 hF_12_0 => ?_)
        clear hB
        rw [ht] at hP1
        obtain ⟨hP, hD⟩ := va_join (wr := [(xI m_st cI 38 fs)]) (w1 := [(xo_8_rrriirrriiiiiiirrirrrrri mo m_la m_sz m_it msn_12 mt m_st m_mv m_tp (nI mz) ml (nI mp) mk mv mb mw m_rd m_ac (nI ma) m_as m_wo m_ik m_ke m_tr (nI mx))]) hP hD [0] [1] rfl rfl (by decide +kernel) (by decide +kernel) hk1 hc_12.2.2 hP1 hD1
        generalize H1 = H at hP hS ⊢
        have hP : va_P (dC, dI) vwCl [(xI m_st cI 38 fs), (xo_8_rrriirrriiiiiiirrirrrrri mo m_la m_sz m_it msn_12 mt m_st m_mv m_tp (nI mz) ml (nI mp) mk mv mb mw m_rd m_ac (nI ma) m_as m_wo m_ik m_ke m_tr (nI mx))] H := hP
        have hD := dto hP hD
        have hX9 := cut2 (wc := [(xo_8_rrriirrriiiiiiirrirrrrri mo m_la m_sz m_it msn_12 mt m_st m_mv m_tp (nI mz) ml (nI mp) mk mv mb mw m_rd m_ac (nI ma) m_as m_wo m_ik m_ke m_tr (nI mx)), (xI m_st cI 38 fs)]) hP hD [1, 0] (by decide +kernel) rfl
        exact W.iret (v := r_12) hx hb hr (fun t ht hW => ⟨⟨r_12, (), rfl, (lf_X8_as_6 hM hj_1 hkn1 hw1 h01 f_5_1_0 q_5 hj_5 e_9 f_10_0_0 hF_12_0 h_12), ⟨msn_12, va_Ht ht hX9.1, hX9.2, (lf_X8_as_5 hM hj_1 hkn1 hw1 h01 f_5_1_0 q_5 hj_5 e_9 f_10_0_0 hF_12_0 h_12)⟩⟩, hS.F ht⟩) hS.2.2 dX8_as_52
      · subst h_10
        refine lv_if_eq (tgt := 47) hx hb dX8_as_36 (by decide) (fun c_ => absurd c_ (by decide)) (fun _ => ?_)
        refine lv_aload_n hx hb dX8_as_39 rfl (lv_at hl 0 rfl) ?_
        refine lv_iload_n hx hb dX8_as_40 rfl (lv_at hl 1 rfl) ?_
        have hc_14 := cutW (wc := [(xo_8_rrriirrriiiiiiirrirrrrri mo m_la m_sz m_it ms mt m_st m_mv m_tp (nI mz) ml (nI mp) mk mv mb mw m_rd m_ac (nI ma) m_as m_wo m_ik m_ke m_tr (nI mx))]) hP hD hS hA [0] (by decide +kernel) rfl
        refine va_calli (va_runV (As := [.int (nI j_1)]) (rest := []) ⟨hx, hb, hml, hown, hts⟩ (r_X8_well l dC dI cI cZ cL cJ s.heap.size mo m_la m_sz m_it m_st m_mv m_tp m_rd m_ac m_as m_wo m_ik m_ke m_tr ms mt ml mk mv mb mw mz mp ma mx (nI j_1) ) (cwV 1 hts gX8_as_X8_well rfl rfl rfl (by decide +kernel) ⟨Nat.le_of_ble_eq_true rfl, Nat.le_of_ble_eq_true rfl⟩) (pvW 8 0 hK hP rfl rfl hc_14) rfl rfl hl.1 rfl (lv_room (Nat.le_of_ble_eq_true rfl)) dX8_as_41 ⟨Nat.le_of_ble_eq_true rfl, Nat.le_of_ble_eq_true rfl⟩) hS (fun q _ h => hc_14.2.2 q h) hc_14.2.2 (fun r_14 u_14 t_14 H1 locs ht hvm h_14 hB hz1 hk1 hS => ?_)
        refine xl_1_3 hB (fun msn_14 hP1 hD1 hF_14_0 => ?_)
        clear hB
        rw [ht] at hP1
        obtain ⟨hP, hD⟩ := va_join (wr := [(xI m_st cI 38 fs)]) (w1 := [(xo_8_rrriirrriiiiiiirrirrrrri mo m_la m_sz m_it msn_14 mt m_st m_mv m_tp (nI mz) ml (nI mp) mk mv mb mw m_rd m_ac (nI ma) m_as m_wo m_ik m_ke m_tr (nI mx))]) hP hD [0] [1] rfl rfl (by decide +kernel) (by decide +kernel) hk1 hc_14.2.2 hP1 hD1
        generalize H1 = H at hP hS ⊢
        have hP : va_P (dC, dI) vwCl [(xI m_st cI 38 fs), (xo_8_rrriirrriiiiiiirrirrrrri mo m_la m_sz m_it msn_14 mt m_st m_mv m_tp (nI mz) ml (nI mp) mk mv mb mw m_rd m_ac (nI ma) m_as m_wo m_ik m_ke m_tr (nI mx))] H := hP
        have hD := dto hP hD
        refine lv_goto (tgt := 52) hx hb dX8_as_44 (by decide) ?_
        have hX9 := cut2 (wc := [(xo_8_rrriirrriiiiiiirrirrrrri mo m_la m_sz m_it msn_14 mt m_st m_mv m_tp (nI mz) ml (nI mp) mk mv mb mw m_rd m_ac (nI ma) m_as m_wo m_ik m_ke m_tr (nI mx)), (xI m_st cI 38 fs)]) hP hD [1, 0] (by decide +kernel) rfl
        exact W.iret (v := r_14) hx hb hr (fun t ht hW => ⟨⟨r_14, (), rfl, (lf_X8_as_8 hM hj_1 hkn1 hw1 h01 f_5_1_0 q_5 hj_5 e_9 f_10_1_0 hF_14_0 h_14), ⟨msn_14, va_Ht ht hX9.1, hX9.2, (lf_X8_as_7 hM hj_1 hkn1 hw1 h01 f_5_1_0 q_5 hj_5 e_9 f_10_1_0 hF_14_0 h_14)⟩⟩, hS.F ht⟩) hS.2.2 dX8_as_52
theorem lf_X8_begin_1 {mx : Nat} {fe_ : Nat → Int32} {n : Int32} (hmx : mx ≤ 16) (c_1 : 16 ≤ mx) : lvX n (mx, fe_) = (mx, fe_) := by
  first
  | omega
  | (simp only [lvX]; grind)
theorem lf_X8_begin_2 {mx : Nat} {fe_ : Nat → Int32} {n : Int32} {g_2 : Nat → Int32} (hmx : mx ≤ 16) (c_1 : ¬ (16 ≤ mx)) (hu_2 : g_2 = upd fe_ mx n) : lvX n (mx, fe_) = ((mx + 1), g_2) := by
  first
  | omega
  | (simp only [lvX]; grind)
set_option maxHeartbeats 4000000 in
set_option maxRecDepth 100000 in
theorem r_X8_begin (l : Launch) (dC : Nat → ClassId) (dI : Nat → Nat → Nat) (cI cZ cL cJ : ClassId) (sz : Nat) (mo : Nat) (m_la : Nat) (m_sz : Nat) (m_it : Nat) (m_st : Nat) (m_mv : Nat) (m_tp : Nat) (m_rd : Nat) (m_ac : Nat) (m_as : Nat) (m_wo : Nat) (m_ik : Nat) (m_ke : Nat) (m_tr : Nat) (ms : Int32) (mt : Int32) (ml : Int32) (mk : Int32) (mv : Int32) (mb : Int32) (mw : Int32) (mz : Nat) (mp : Nat) (ma : Nat) (mx : Nat) (fe_ : Nat → Int32) (n : Int32) (hmx : mx ≤ 16) : Met l yX8_begin wsX8_begin ({ frames := 0, cells := 0, slots := 0, locals := 0 }) (va_Pc [.ref mo, .int n] (fun U => U.heap.size = sz ∧ va_P (dC, dI) vwCl [(xo_8_rrriirrriiiiiiirrirrrrri mo m_la m_sz m_it ms mt m_st m_mv m_tp (nI mz) ml (nI mp) mk mv mb mw m_rd m_ac (nI ma) m_as m_wo m_ik m_ke m_tr (nI mx)), (xI m_tr cI 16 fe_)] U.heap ∧ va_K (dC, dI) vwCl [(cI, .int), (cZ, .boolean), (cL, .object RX3), (cJ, .array .int)] U ∧ va_D (fun _ => True) [(xo_8_rrriirrriiiiiiirrirrrrri mo m_la m_sz m_it ms mt m_st m_mv m_tp (nI mz) ml (nI mp) mk mv mb mw m_rd m_ac (nI ma) m_as m_wo m_ik m_ke m_tr (nI mx)), (xI m_tr cI 16 fe_)])) (va_Qv (fun (_ : Unit) => True) (fun (_ : Unit) t => ∃ (mxn : Nat) (fen_ : Nat → Int32), va_P (dC, dI) vwCl [(xo_8_rrriirrriiiiiiirrirrrrri mo m_la m_sz m_it ms mt m_st m_mv m_tp (nI mz) ml (nI mp) mk mv mb mw m_rd m_ac (nI ma) m_as m_wo m_ik m_ke m_tr (nI mxn)), (xI m_tr cI 16 fen_)] t.heap ∧ va_D (va_A [(xo_8_rrriirrriiiiiiirrirrrrri mo m_la m_sz m_it ms mt m_st m_mv m_tp (nI mz) ml (nI mp) mk mv mb mw m_rd m_ac (nI ma) m_as m_wo m_ik m_ke m_tr (nI mx)), (xI m_tr cI 16 fe_)] sz) [(xo_8_rrriirrriiiiiiirrirrrrri mo m_la m_sz m_it ms mt m_st m_mv m_tp (nI mz) ml (nI mp) mk mv mb mw m_rd m_ac (nI ma) m_as m_wo m_ik m_ke m_tr (nI mxn)), (xI m_tr cI 16 fen_)] ∧ mxn ≤ 16 ∧ lvX n (mx, fe_) = (mxn, fen_)) (va_A [(xo_8_rrriirrriiiiiiirrirrrrri mo m_la m_sz m_it ms mt m_st m_mv m_tp (nI mz) ml (nI mp) mk mv mb mw m_rd m_ac (nI ma) m_as m_wo m_ik m_ke m_tr (nI mx)), (xI m_tr cI 16 fe_)] sz)) 0 0 (va_A [(xo_8_rrriirrriiiiiiirrirrrrri mo m_la m_sz m_it ms mt m_st m_mv m_tp (nI mz) ml (nI mp) mk mv mb mw m_rd m_ac (nI ma) m_as m_wo m_ik m_ke m_tr (nI mx)), (xI m_tr cI 16 fe_)] sz) := by
  refine Met.ofW (cc := cX8_begin) (maxL := 2) (ret := none) (by decide) rfl ?_
  intro p e s m args below meth c s₁ B hml hv
  obtain ⟨rfl, hsz, hP, hK, hD0⟩ := hv
  have hx := B.exec
  have hb := B.bytes
  have hr := B.returns
  have hts := atoms_spec (ws := wsX8_begin) B.pre
  have hown : s.vm.findClass RX8 = some m.cls := findClass_of_methodNamed B.named
  have hlocks := B.notSynchronized
  subst hsz
  have hD := hD0.self (sz := s.heap.size)
  generalize hAe : va_A [(xo_8_rrriirrriiiiiiirrirrrrri mo m_la m_sz m_it ms mt m_st m_mv m_tp (nI mz) ml (nI mp) mk mv mb mw m_rd m_ac (nI ma) m_as m_wo m_ik m_ke m_tr (nI mx)), (xI m_tr cI 16 fe_)] s.heap.size = A at hD ⊢
  have hA : ∀ q : Nat, s.heap.size ≤ q → A q := fun q h => by rw [← hAe]; exact Or.inr h
  have hS : va_S A s.heap s.heap [] := va_S.rf
  have hP : va_P (dC, dI) vwCl [(xo_8_rrriirrriiiiiiirrirrrrri mo m_la m_sz m_it ms mt m_st m_mv m_tp (nI mz) ml (nI mp) mk mv mb mw m_rd m_ac (nI ma) m_as m_wo m_ik m_ke m_tr (nI mx)), (xI m_tr cI 16 fe_)] s.heap := hP
  have hl := lv_entry ([.ref mo, .int n]) (n := 2) (Nat.le_of_ble_eq_true rfl)
  rw [lg_entry_eq]
  generalize (lg_sl ([.ref mo, .int n]) ++ List.replicate (2 - (lg_sl ([.ref mo, .int n])).length) Slot.unset).toArray = ls at hl ⊢
  have hl : lv_has ls 2 [(0, .ref mo), (1, .int n)] := hl
  refine lv_aload_n hx hb dX8_begin_0 rfl (lv_at hl 0 rfl) ?_
  refine va_get (D := (dC, dI)) (ci := 8) (v := .int (nI mx)) (C := RX8) (T := TX8) (N := 24) hx hb hts i_X8_begin_X8 hown hK hP 0 rfl rfl 23 (by decide) (hts _ mx_X8_begin_1) (fun _ h9 => h9) rfl dX8_begin_1 ?_
  refine lv_bipush (v := 16) hx hb dX8_begin_4 (by decide) ?_
  refine lv_icmp_ge (tgt := 29) hx hb dX8_begin_6 (by decide) (fun c_1 => ?_) (fun c_1 => ?_)
  · have c_1 : 16 ≤ mx := (nI_leI (a := 16) (b := mx) (by omega) (by omega)).mp c_1
    have hX9 := cut2 (wc := [(xo_8_rrriirrriiiiiiirrirrrrri mo m_la m_sz m_it ms mt m_st m_mv m_tp (nI mz) ml (nI mp) mk mv mb mw m_rd m_ac (nI ma) m_as m_wo m_ik m_ke m_tr (nI mx)), (xI m_tr cI 16 fe_)]) hP hD [0, 1] (by decide +kernel) rfl
    exact W.vret hx hb hr (fun t ht hW => ⟨⟨(), rfl, trivial, ⟨mx, fe_, va_Ht ht hX9.1, hX9.2, (by omega), (lf_X8_begin_1 hmx c_1)⟩⟩, hS.F ht⟩) hS.2.2 dX8_begin_29
  · have c_1 : ¬ (16 ≤ mx) := fun q_ => c_1 ((nI_leI (a := 16) (b := mx) (by omega) (by omega)).mpr q_)
    refine lv_aload_n hx hb dX8_begin_9 rfl (lv_at hl 0 rfl) ?_
    refine va_get (D := (dC, dI)) (ci := 8) (v := .ref m_tr) (C := RX8) (T := TX8) (N := 24) hx hb hts i_X8_begin_X8 hown hK hP 0 rfl rfl 22 (by decide) (hts _ mx_X8_begin_2) (fun _ h9 => h9) rfl dX8_begin_10 ?_
    refine lv_aload_n hx hb dX8_begin_13 rfl (lv_at hl 0 rfl) ?_
    refine va_get (D := (dC, dI)) (ci := 8) (v := .int (nI mx)) (C := RX8) (T := TX8) (N := 24) hx hb hts i_X8_begin_X8 hown hK hP 0 rfl rfl 23 (by decide) (hts _ mx_X8_begin_1) (fun _ h9 => h9) rfl dX8_begin_14 ?_
    refine lv_iload_n hx hb dX8_begin_17 rfl (lv_at hl 1 rfl) ?_
    refine va_iast hx hb hK hP hD hS 1 0 rfl rfl (vp_in_nI (by omega) (by omega)) dX8_begin_18 (fun H locs hP hD hS => ?_)
    generalize hg_2 : upd fe_ ((nI mx) : Int32).toNatClampNeg n = g_2 at hP hD
    have hu_2 : g_2 = upd fe_ mx n := (by rw [← hg_2, nI_clamp (by omega)])
    have hP : va_P (dC, dI) vwCl [(xo_8_rrriirrriiiiiiirrirrrrri mo m_la m_sz m_it ms mt m_st m_mv m_tp (nI mz) ml (nI mp) mk mv mb mw m_rd m_ac (nI ma) m_as m_wo m_ik m_ke m_tr (nI mx)), (xI m_tr cI 16 g_2)] H := hP
    have hD := dto hP hD
    refine lv_aload_n hx hb dX8_begin_19 rfl (lv_at hl 0 rfl) ?_
    refine lv_dup hx hb dX8_begin_20 rfl ?_
    refine va_get (D := (dC, dI)) (ci := 8) (v := .int (nI mx)) (C := RX8) (T := TX8) (N := 24) hx hb hts i_X8_begin_X8 hown hK hP 0 rfl rfl 23 (by decide) (hts _ mx_X8_begin_1) (fun _ h9 => h9) rfl dX8_begin_21 ?_
    refine lv_iconst (v := 1) hx hb dX8_begin_24 (by decide) ?_
    refine lv_iadd hx hb dX8_begin_25 ?_
    refine lv_topi (fun v_3 e_3 => ?_)
    obtain rfl : v_3 = (nI (mx + 1)) := (e_3).trans (nI_add mx 1)
    refine va_put (D := (dC, dI)) (ci := 8) (v := .int (nI (mx + 1))) (ty := .int) (C := RX8) (T := TX8) (N := 24) hx hb hts i_X8_begin_X8 tyX8 tyX8_ok nmX8 hown hK hP hD hS 0 rfl rfl 23 (by decide) (hts _ mx_X8_begin_1) (fun _ h9 => h9) rfl (by decide +kernel) rfl rfl (Nat.le_of_ble_eq_true rfl) dX8_begin_26 (fun H locs hP hD hS => ?_)
    have hP : va_P (dC, dI) vwCl [(xo_8_rrriirrriiiiiiirrirrrrri mo m_la m_sz m_it ms mt m_st m_mv m_tp (nI mz) ml (nI mp) mk mv mb mw m_rd m_ac (nI ma) m_as m_wo m_ik m_ke m_tr (nI (mx + 1))), (xI m_tr cI 16 g_2)] H := hP
    have hD := dto hP hD
    have hX9 := cut2 (wc := [(xo_8_rrriirrriiiiiiirrirrrrri mo m_la m_sz m_it ms mt m_st m_mv m_tp (nI mz) ml (nI mp) mk mv mb mw m_rd m_ac (nI ma) m_as m_wo m_ik m_ke m_tr (nI (mx + 1))), (xI m_tr cI 16 g_2)]) hP hD [0, 1] (by decide +kernel) rfl
    exact W.vret hx hb hr (fun t ht hW => ⟨⟨(), rfl, trivial, ⟨(mx + 1), g_2, va_Ht ht hX9.1, hX9.2, (by omega), (lf_X8_begin_2 hmx c_1 hu_2)⟩⟩, hS.F ht⟩) hS.2.2 dX8_begin_29
theorem lf_X8_lent_1 {mx : Nat} {fs : Nat → Int32} {fe_ : Nat → Int32} {i : Nat} {n : Int32} {mxn_1 : Nat} {fen__1 : Nat → Int32} (hmx : mx ≤ 16) (hi : i < 6) (hF_1_0 : mxn_1 ≤ 16) (hF_1_1 : lvX n (mx, fe_) = (mxn_1, fen__1)) (c_2 : ¬ (n = 10)) : (lentM fs i n (mx, fe_)).2 = (mxn_1, fen__1) := by
  first
  | omega
  | (simp only [lentM]; grind)
theorem lf_X8_lent_2 {mx : Nat} {fs : Nat → Int32} {fe_ : Nat → Int32} {i : Nat} {n : Int32} {mxn_1 : Nat} {fen__1 : Nat → Int32} (hmx : mx ≤ 16) (hi : i < 6) (hF_1_0 : mxn_1 ≤ 16) (hF_1_1 : lvX n (mx, fe_) = (mxn_1, fen__1)) (c_2 : ¬ (n = 10)) : (nI i) = ((lentM fs i n (mx, fe_)).1) := by
  first
  | omega
  | (simp only [lentM]; grind)
theorem lf_X8_lent_3 {mx : Nat} {fs : Nat → Int32} {fe_ : Nat → Int32} {i : Nat} {n : Int32} {mxn_1 : Nat} {fen__1 : Nat → Int32} {v_4 : Int32} (hmx : mx ≤ 16) (hi : i < 6) (hF_1_0 : mxn_1 ≤ 16) (hF_1_1 : lvX n (mx, fe_) = (mxn_1, fen__1)) (c_2 : n = 10) (e_4 : v_4 = fs (32 + i)) : (lentM fs i n (mx, fe_)).2 = (mxn_1, fen__1) := by
  first
  | omega
  | (simp only [lentM]; grind)
theorem lf_X8_lent_4 {mx : Nat} {fs : Nat → Int32} {fe_ : Nat → Int32} {i : Nat} {n : Int32} {mxn_1 : Nat} {fen__1 : Nat → Int32} {v_4 : Int32} (hmx : mx ≤ 16) (hi : i < 6) (hF_1_0 : mxn_1 ≤ 16) (hF_1_1 : lvX n (mx, fe_) = (mxn_1, fen__1)) (c_2 : n = 10) (e_4 : v_4 = fs (32 + i)) : v_4 = ((lentM fs i n (mx, fe_)).1) := by
  first
  | omega
  | (simp only [lentM]; grind)
set_option maxHeartbeats 4000000 in
set_option maxRecDepth 100000 in
theorem r_X8_lent (l : Launch) (dC : Nat → ClassId) (dI : Nat → Nat → Nat) (cI cZ cL cJ : ClassId) (sz : Nat) (mo : Nat) (m_la : Nat) (m_sz : Nat) (m_it : Nat) (m_st : Nat) (m_mv : Nat) (m_tp : Nat) (m_rd : Nat) (m_ac : Nat) (m_as : Nat) (m_wo : Nat) (m_ik : Nat) (m_ke : Nat) (m_tr : Nat) (ms : Int32) (mt : Int32) (ml : Int32) (mk : Int32) (mv : Int32) (mb : Int32) (mw : Int32) (mz : Nat) (mp : Nat) (ma : Nat) (mx : Nat) (fs : Nat → Int32) (fe_ : Nat → Int32) (i : Nat) (n : Int32) (hmx : mx ≤ 16) (hi : i < 6) : Met l yX8_lent wsX8_lent ({ frames := 1, cells := 0, slots := 0, locals := 21 }) (va_Pc [.ref mo, .int (nI i), .int n] (fun U => U.heap.size = sz ∧ va_P (dC, dI) vwCl [(xo_8_rrriirrriiiiiiirrirrrrri mo m_la m_sz m_it ms mt m_st m_mv m_tp (nI mz) ml (nI mp) mk mv mb mw m_rd m_ac (nI ma) m_as m_wo m_ik m_ke m_tr (nI mx)), (xI m_st cI 38 fs), (xI m_tr cI 16 fe_)] U.heap ∧ va_K (dC, dI) vwCl [(cI, .int), (cZ, .boolean), (cL, .object RX3), (cJ, .array .int)] U ∧ va_D (fun _ => True) [(xo_8_rrriirrriiiiiiirrirrrrri mo m_la m_sz m_it ms mt m_st m_mv m_tp (nI mz) ml (nI mp) mk mv mb mw m_rd m_ac (nI ma) m_as m_wo m_ik m_ke m_tr (nI mx)), (xI m_st cI 38 fs), (xI m_tr cI 16 fe_)])) (va_Qi (fun r (_ : Unit) => r = ((lentM fs i n (mx, fe_)).1)) (fun (_ : Unit) t => ∃ (mxn : Nat) (fen_ : Nat → Int32), va_P (dC, dI) vwCl [(xo_8_rrriirrriiiiiiirrirrrrri mo m_la m_sz m_it ms mt m_st m_mv m_tp (nI mz) ml (nI mp) mk mv mb mw m_rd m_ac (nI ma) m_as m_wo m_ik m_ke m_tr (nI mxn)), (xI m_st cI 38 fs), (xI m_tr cI 16 fen_)] t.heap ∧ va_D (va_A [(xo_8_rrriirrriiiiiiirrirrrrri mo m_la m_sz m_it ms mt m_st m_mv m_tp (nI mz) ml (nI mp) mk mv mb mw m_rd m_ac (nI ma) m_as m_wo m_ik m_ke m_tr (nI mx)), (xI m_st cI 38 fs), (xI m_tr cI 16 fe_)] sz) [(xo_8_rrriirrriiiiiiirrirrrrri mo m_la m_sz m_it ms mt m_st m_mv m_tp (nI mz) ml (nI mp) mk mv mb mw m_rd m_ac (nI ma) m_as m_wo m_ik m_ke m_tr (nI mxn)), (xI m_st cI 38 fs), (xI m_tr cI 16 fen_)] ∧ mxn ≤ 16 ∧ (lentM fs i n (mx, fe_)).2 = (mxn, fen_)) (va_A [(xo_8_rrriirrriiiiiiirrirrrrri mo m_la m_sz m_it ms mt m_st m_mv m_tp (nI mz) ml (nI mp) mk mv mb mw m_rd m_ac (nI ma) m_as m_wo m_ik m_ke m_tr (nI mx)), (xI m_st cI 38 fs), (xI m_tr cI 16 fe_)] sz)) 0 0 (va_A [(xo_8_rrriirrriiiiiiirrirrrrri mo m_la m_sz m_it ms mt m_st m_mv m_tp (nI mz) ml (nI mp) mk mv mb mw m_rd m_ac (nI ma) m_as m_wo m_ik m_ke m_tr (nI mx)), (xI m_st cI 38 fs), (xI m_tr cI 16 fe_)] sz) := by
  refine Met.ofW (cc := cX8_lent) (maxL := 3) (ret := (some .int)) (by decide) rfl ?_
  intro p e s m args below meth c s₁ B hml hv
  obtain ⟨rfl, hsz, hP, hK, hD0⟩ := hv
  have hx := B.exec
  have hb := B.bytes
  have hr := B.returns
  have hts := atoms_spec (ws := wsX8_lent) B.pre
  have hown : s.vm.findClass RX8 = some m.cls := findClass_of_methodNamed B.named
  have hlocks := B.notSynchronized
  subst hsz
  have hD := hD0.self (sz := s.heap.size)
  generalize hAe : va_A [(xo_8_rrriirrriiiiiiirrirrrrri mo m_la m_sz m_it ms mt m_st m_mv m_tp (nI mz) ml (nI mp) mk mv mb mw m_rd m_ac (nI ma) m_as m_wo m_ik m_ke m_tr (nI mx)), (xI m_st cI 38 fs), (xI m_tr cI 16 fe_)] s.heap.size = A at hD ⊢
  have hA : ∀ q : Nat, s.heap.size ≤ q → A q := fun q h => by rw [← hAe]; exact Or.inr h
  have hS : va_S A s.heap s.heap [] := va_S.rf
  have hP : va_P (dC, dI) vwCl [(xo_8_rrriirrriiiiiiirrirrrrri mo m_la m_sz m_it ms mt m_st m_mv m_tp (nI mz) ml (nI mp) mk mv mb mw m_rd m_ac (nI ma) m_as m_wo m_ik m_ke m_tr (nI mx)), (xI m_st cI 38 fs), (xI m_tr cI 16 fe_)] s.heap := hP
  have hl := lv_entry ([.ref mo, .int (nI i), .int n]) (n := 3) (Nat.le_of_ble_eq_true rfl)
  rw [lg_entry_eq]
  generalize (lg_sl ([.ref mo, .int (nI i), .int n]) ++ List.replicate (3 - (lg_sl ([.ref mo, .int (nI i), .int n])).length) Slot.unset).toArray = ls at hl ⊢
  have hl : lv_has ls 3 [(0, .ref mo), (1, .int (nI i)), (2, .int n)] := hl
  refine lv_aload_n hx hb dX8_lent_0 rfl (lv_at hl 0 rfl) ?_
  refine lv_iload_n hx hb dX8_lent_1 rfl (lv_at hl 2 rfl) ?_
  have hc_1 := cutW (wc := [(xo_8_rrriirrriiiiiiirrirrrrri mo m_la m_sz m_it ms mt m_st m_mv m_tp (nI mz) ml (nI mp) mk mv mb mw m_rd m_ac (nI ma) m_as m_wo m_ik m_ke m_tr (nI mx)), (xI m_tr cI 16 fe_)]) hP hD hS hA [0, 2] (by decide +kernel) rfl
  refine va_callv (va_runV (As := [.int n]) (rest := []) ⟨hx, hb, hml, hown, hts⟩ (r_X8_begin l dC dI cI cZ cL cJ s.heap.size mo m_la m_sz m_it m_st m_mv m_tp m_rd m_ac m_as m_wo m_ik m_ke m_tr ms mt ml mk mv mb mw mz mp ma mx fe_ n (by omega)) (cwV 1 hts gX8_lent_X8_begin rfl rfl rfl (by decide +kernel) ⟨Nat.le_of_ble_eq_true rfl, Nat.le_of_ble_eq_true rfl⟩) (pvW 8 0 hK hP rfl rfl hc_1) rfl rfl hl.1 rfl (lv_room (Nat.le_of_ble_eq_true rfl)) dX8_lent_2 ⟨Nat.le_of_ble_eq_true rfl, Nat.le_of_ble_eq_true rfl⟩) hS (fun q _ h => hc_1.2.2 q h) hc_1.2.2 (fun u_1 t_1 H1 locs ht hvm h_1 hB hz1 hk1 hS => ?_)
  refine xl_2_4 hB (fun mxn_1 fen__1 hP1 hD1 hF_1_0 hF_1_1 => ?_)
  clear hB
  rw [ht] at hP1
  obtain ⟨hP, hD⟩ := va_join (wr := [(xI m_st cI 38 fs)]) (w1 := [(xo_8_rrriirrriiiiiiirrirrrrri mo m_la m_sz m_it ms mt m_st m_mv m_tp (nI mz) ml (nI mp) mk mv mb mw m_rd m_ac (nI ma) m_as m_wo m_ik m_ke m_tr (nI mxn_1)), (xI m_tr cI 16 fen__1)]) hP hD [0, 2] [1] rfl rfl (by decide +kernel) (by decide +kernel) hk1 hc_1.2.2 hP1 hD1
  generalize H1 = H at hP hS ⊢
  have hP : va_P (dC, dI) vwCl [(xI m_st cI 38 fs), (xo_8_rrriirrriiiiiiirrirrrrri mo m_la m_sz m_it ms mt m_st m_mv m_tp (nI mz) ml (nI mp) mk mv mb mw m_rd m_ac (nI ma) m_as m_wo m_ik m_ke m_tr (nI mxn_1)), (xI m_tr cI 16 fen__1)] H := hP
  have hD := dto hP hD
  refine lv_iload_n hx hb dX8_lent_5 rfl (lv_at hl 2 rfl) ?_
  refine lv_bipush (v := 10) hx hb dX8_lent_6 (by decide) ?_
  refine lv_icmp_ne (tgt := 23) hx hb dX8_lent_8 (by decide) (fun c_2 => ?_) (fun c_2 => ?_)
  · skip
    refine lv_iload_n hx hb dX8_lent_23 rfl (lv_at hl 1 rfl) ?_
    have hX9 := cut2 (wc := [(xo_8_rrriirrriiiiiiirrirrrrri mo m_la m_sz m_it ms mt m_st m_mv m_tp (nI mz) ml (nI mp) mk mv mb mw m_rd m_ac (nI ma) m_as m_wo m_ik m_ke m_tr (nI mxn_1)), (xI m_st cI 38 fs), (xI m_tr cI 16 fen__1)]) hP hD [1, 0, 2] (by decide +kernel) rfl
    exact W.iret (v := (nI i)) hx hb hr (fun t ht hW => ⟨⟨(nI i), (), rfl, (lf_X8_lent_2 hmx hi hF_1_0 hF_1_1 c_2), ⟨mxn_1, fen__1, va_Ht ht hX9.1, hX9.2, (by omega), (lf_X8_lent_1 hmx hi hF_1_0 hF_1_1 c_2)⟩⟩, hS.F ht⟩) hS.2.2 dX8_lent_24
  · skip
    refine lv_aload_n hx hb dX8_lent_11 rfl (lv_at hl 0 rfl) ?_
    refine va_get (D := (dC, dI)) (ci := 8) (v := .ref m_st) (C := RX8) (T := TX8) (N := 24) hx hb hts i_X8_lent_X8 hown hK hP 1 rfl rfl 5 (by decide) (hts _ mx_X8_lent_1) (fun _ h9 => h9) rfl dX8_lent_12 ?_
    refine lv_bipush (v := 32) hx hb dX8_lent_15 (by decide) ?_
    refine lv_iload_n hx hb dX8_lent_17 rfl (lv_at hl 1 rfl) ?_
    refine lv_iadd hx hb dX8_lent_18 ?_
    refine lv_topi (fun v_3 e_3 => ?_)
    obtain rfl : v_3 = (nI (32 + i)) := (e_3).trans (nI_add 32 i)
    refine va_iald hx hb hK hP 0 0 rfl rfl (vp_in_nI (by omega) (by omega)) dX8_lent_19 ?_
    refine lv_topi (fun v_4 e_4 => ?_)
    have e_4 : v_4 = fs (32 + i) := e_4.trans (congrArg fs (nI_clamp (by omega)))
    refine lv_goto (tgt := 24) hx hb dX8_lent_20 (by decide) ?_
    have hX9 := cut2 (wc := [(xo_8_rrriirrriiiiiiirrirrrrri mo m_la m_sz m_it ms mt m_st m_mv m_tp (nI mz) ml (nI mp) mk mv mb mw m_rd m_ac (nI ma) m_as m_wo m_ik m_ke m_tr (nI mxn_1)), (xI m_st cI 38 fs), (xI m_tr cI 16 fen__1)]) hP hD [1, 0, 2] (by decide +kernel) rfl
    exact W.iret (v := v_4) hx hb hr (fun t ht hW => ⟨⟨v_4, (), rfl, (lf_X8_lent_4 hmx hi hF_1_0 hF_1_1 c_2 e_4), ⟨mxn_1, fen__1, va_Ht ht hX9.1, hX9.2, (by omega), (lf_X8_lent_3 hmx hi hF_1_0 hF_1_1 c_2 e_4)⟩⟩, hS.F ht⟩) hS.2.2 dX8_lent_24
theorem lf_X8_voiceMark_1 {mx : Nat} {fs : Nat → Int32} {fe_ : Nat → Int32} {i : Nat} {mxn_1 : Nat} {fen__1 : Nat → Int32} {mxn_2 : Nat} {fen__2 : Nat → Int32} {r_2 : Int32} {v_4 : Int32} {v_5 : Int32} (hmx : mx ≤ 16) (hi : i < 6) (hF_1_0 : mxn_1 ≤ 16) (hF_1_1 : lvX 21 (mx, fe_) = (mxn_1, fen__1)) (hF_2_0 : mxn_2 ≤ 16) (hF_2_1 : (lentM fs i 20 (mxn_1, fen__1)).2 = (mxn_2, fen__2)) (h_2 : r_2 = ((lentM fs i 20 (mxn_1, fen__1)).1)) (e_4 : v_4 = fs (20 + i)) (e_5 : v_5 = (r_2 + v_4)) : (vmM fs i (mx, fe_)).2 = (mxn_2, fen__2) := by
  first
  | omega
  | (simp only [vmM]; grind)
theorem lf_X8_voiceMark_2 {mx : Nat} {fs : Nat → Int32} {fe_ : Nat → Int32} {i : Nat} {mxn_1 : Nat} {fen__1 : Nat → Int32} {mxn_2 : Nat} {fen__2 : Nat → Int32} {r_2 : Int32} {v_4 : Int32} {v_5 : Int32} (hmx : mx ≤ 16) (hi : i < 6) (hF_1_0 : mxn_1 ≤ 16) (hF_1_1 : lvX 21 (mx, fe_) = (mxn_1, fen__1)) (hF_2_0 : mxn_2 ≤ 16) (hF_2_1 : (lentM fs i 20 (mxn_1, fen__1)).2 = (mxn_2, fen__2)) (h_2 : r_2 = ((lentM fs i 20 (mxn_1, fen__1)).1)) (e_4 : v_4 = fs (20 + i)) (e_5 : v_5 = (r_2 + v_4)) : v_5 = ((vmM fs i (mx, fe_)).1) := by
  first
  | omega
  | (simp only [vmM]; grind)
set_option maxHeartbeats 4000000 in
set_option maxRecDepth 100000 in
theorem r_X8_voiceMark (l : Launch) (dC : Nat → ClassId) (dI : Nat → Nat → Nat) (cI cZ cL cJ : ClassId) (sz : Nat) (mo : Nat) (m_la : Nat) (m_sz : Nat) (m_it : Nat) (m_st : Nat) (m_mv : Nat) (m_tp : Nat) (m_rd : Nat) (m_ac : Nat) (m_as : Nat) (m_wo : Nat) (m_ik : Nat) (m_ke : Nat) (m_tr : Nat) (ms : Int32) (mt : Int32) (ml : Int32) (mk : Int32) (mv : Int32) (mb : Int32) (mw : Int32) (mz : Nat) (mp : Nat) (ma : Nat) (mx : Nat) (fs : Nat → Int32) (fe_ : Nat → Int32) (i : Nat) (hmx : mx ≤ 16) (hi : i < 6) : Met l yX8_voiceMark wsX8_voiceMark ({ frames := 2, cells := 0, slots := 0, locals := 43 }) (va_Pc [.ref mo, .int (nI i)] (fun U => U.heap.size = sz ∧ va_P (dC, dI) vwCl [(xo_8_rrriirrriiiiiiirrirrrrri mo m_la m_sz m_it ms mt m_st m_mv m_tp (nI mz) ml (nI mp) mk mv mb mw m_rd m_ac (nI ma) m_as m_wo m_ik m_ke m_tr (nI mx)), (xI m_st cI 38 fs), (xI m_tr cI 16 fe_)] U.heap ∧ va_K (dC, dI) vwCl [(cI, .int), (cZ, .boolean), (cL, .object RX3), (cJ, .array .int)] U ∧ va_D (fun _ => True) [(xo_8_rrriirrriiiiiiirrirrrrri mo m_la m_sz m_it ms mt m_st m_mv m_tp (nI mz) ml (nI mp) mk mv mb mw m_rd m_ac (nI ma) m_as m_wo m_ik m_ke m_tr (nI mx)), (xI m_st cI 38 fs), (xI m_tr cI 16 fe_)])) (va_Qi (fun r (_ : Unit) => r = ((vmM fs i (mx, fe_)).1)) (fun (_ : Unit) t => ∃ (mxn : Nat) (fen_ : Nat → Int32), va_P (dC, dI) vwCl [(xo_8_rrriirrriiiiiiirrirrrrri mo m_la m_sz m_it ms mt m_st m_mv m_tp (nI mz) ml (nI mp) mk mv mb mw m_rd m_ac (nI ma) m_as m_wo m_ik m_ke m_tr (nI mxn)), (xI m_st cI 38 fs), (xI m_tr cI 16 fen_)] t.heap ∧ va_D (va_A [(xo_8_rrriirrriiiiiiirrirrrrri mo m_la m_sz m_it ms mt m_st m_mv m_tp (nI mz) ml (nI mp) mk mv mb mw m_rd m_ac (nI ma) m_as m_wo m_ik m_ke m_tr (nI mx)), (xI m_st cI 38 fs), (xI m_tr cI 16 fe_)] sz) [(xo_8_rrriirrriiiiiiirrirrrrri mo m_la m_sz m_it ms mt m_st m_mv m_tp (nI mz) ml (nI mp) mk mv mb mw m_rd m_ac (nI ma) m_as m_wo m_ik m_ke m_tr (nI mxn)), (xI m_st cI 38 fs), (xI m_tr cI 16 fen_)] ∧ mxn ≤ 16 ∧ (vmM fs i (mx, fe_)).2 = (mxn, fen_)) (va_A [(xo_8_rrriirrriiiiiiirrirrrrri mo m_la m_sz m_it ms mt m_st m_mv m_tp (nI mz) ml (nI mp) mk mv mb mw m_rd m_ac (nI ma) m_as m_wo m_ik m_ke m_tr (nI mx)), (xI m_st cI 38 fs), (xI m_tr cI 16 fe_)] sz)) 0 0 (va_A [(xo_8_rrriirrriiiiiiirrirrrrri mo m_la m_sz m_it ms mt m_st m_mv m_tp (nI mz) ml (nI mp) mk mv mb mw m_rd m_ac (nI ma) m_as m_wo m_ik m_ke m_tr (nI mx)), (xI m_st cI 38 fs), (xI m_tr cI 16 fe_)] sz) := by
  refine Met.ofW (cc := cX8_voiceMark) (maxL := 2) (ret := (some .int)) (by decide) rfl ?_
  intro p e s m args below meth c s₁ B hml hv
  obtain ⟨rfl, hsz, hP, hK, hD0⟩ := hv
  have hx := B.exec
  have hb := B.bytes
  have hr := B.returns
  have hts := atoms_spec (ws := wsX8_voiceMark) B.pre
  have hown : s.vm.findClass RX8 = some m.cls := findClass_of_methodNamed B.named
  have hlocks := B.notSynchronized
  subst hsz
  have hD := hD0.self (sz := s.heap.size)
  generalize hAe : va_A [(xo_8_rrriirrriiiiiiirrirrrrri mo m_la m_sz m_it ms mt m_st m_mv m_tp (nI mz) ml (nI mp) mk mv mb mw m_rd m_ac (nI ma) m_as m_wo m_ik m_ke m_tr (nI mx)), (xI m_st cI 38 fs), (xI m_tr cI 16 fe_)] s.heap.size = A at hD ⊢
  have hA : ∀ q : Nat, s.heap.size ≤ q → A q := fun q h => by rw [← hAe]; exact Or.inr h
  have hS : va_S A s.heap s.heap [] := va_S.rf
  have hP : va_P (dC, dI) vwCl [(xo_8_rrriirrriiiiiiirrirrrrri mo m_la m_sz m_it ms mt m_st m_mv m_tp (nI mz) ml (nI mp) mk mv mb mw m_rd m_ac (nI ma) m_as m_wo m_ik m_ke m_tr (nI mx)), (xI m_st cI 38 fs), (xI m_tr cI 16 fe_)] s.heap := hP
  have hl := lv_entry ([.ref mo, .int (nI i)]) (n := 2) (Nat.le_of_ble_eq_true rfl)
  rw [lg_entry_eq]
  generalize (lg_sl ([.ref mo, .int (nI i)]) ++ List.replicate (2 - (lg_sl ([.ref mo, .int (nI i)])).length) Slot.unset).toArray = ls at hl ⊢
  have hl : lv_has ls 2 [(0, .ref mo), (1, .int (nI i))] := hl
  refine lv_aload_n hx hb dX8_voiceMark_0 rfl (lv_at hl 0 rfl) ?_
  refine lv_bipush (v := 21) hx hb dX8_voiceMark_1 (by decide) ?_
  have hc_1 := cutW (wc := [(xo_8_rrriirrriiiiiiirrirrrrri mo m_la m_sz m_it ms mt m_st m_mv m_tp (nI mz) ml (nI mp) mk mv mb mw m_rd m_ac (nI ma) m_as m_wo m_ik m_ke m_tr (nI mx)), (xI m_tr cI 16 fe_)]) hP hD hS hA [0, 2] (by decide +kernel) rfl
  refine va_callv (va_runV (As := [.int 21]) (rest := []) ⟨hx, hb, hml, hown, hts⟩ (r_X8_begin l dC dI cI cZ cL cJ s.heap.size mo m_la m_sz m_it m_st m_mv m_tp m_rd m_ac m_as m_wo m_ik m_ke m_tr ms mt ml mk mv mb mw mz mp ma mx fe_ 21 (by omega)) (cwV 1 hts gX8_voiceMark_X8_begin rfl rfl rfl (by decide +kernel) ⟨Nat.le_of_ble_eq_true rfl, Nat.le_of_ble_eq_true rfl⟩) (pvW 8 0 hK hP rfl rfl hc_1) rfl rfl hl.1 rfl (lv_room (Nat.le_of_ble_eq_true rfl)) dX8_voiceMark_3 ⟨Nat.le_of_ble_eq_true rfl, Nat.le_of_ble_eq_true rfl⟩) hS (fun q _ h => hc_1.2.2 q h) hc_1.2.2 (fun u_1 t_1 H1 locs ht hvm h_1 hB hz1 hk1 hS => ?_)
  refine xl_2_4 hB (fun mxn_1 fen__1 hP1 hD1 hF_1_0 hF_1_1 => ?_)
  clear hB
  rw [ht] at hP1
  obtain ⟨hP, hD⟩ := va_join (wr := [(xI m_st cI 38 fs)]) (w1 := [(xo_8_rrriirrriiiiiiirrirrrrri mo m_la m_sz m_it ms mt m_st m_mv m_tp (nI mz) ml (nI mp) mk mv mb mw m_rd m_ac (nI ma) m_as m_wo m_ik m_ke m_tr (nI mxn_1)), (xI m_tr cI 16 fen__1)]) hP hD [0, 2] [1] rfl rfl (by decide +kernel) (by decide +kernel) hk1 hc_1.2.2 hP1 hD1
  generalize H1 = H at hP hS ⊢
  have hP : va_P (dC, dI) vwCl [(xI m_st cI 38 fs), (xo_8_rrriirrriiiiiiirrirrrrri mo m_la m_sz m_it ms mt m_st m_mv m_tp (nI mz) ml (nI mp) mk mv mb mw m_rd m_ac (nI ma) m_as m_wo m_ik m_ke m_tr (nI mxn_1)), (xI m_tr cI 16 fen__1)] H := hP
  have hD := dto hP hD
  refine lv_aload_n hx hb dX8_voiceMark_6 rfl (lv_at hl 0 rfl) ?_
  refine lv_iload_n hx hb dX8_voiceMark_7 rfl (lv_at hl 1 rfl) ?_
  refine lv_bipush (v := 20) hx hb dX8_voiceMark_8 (by decide) ?_
  have hc_2 := cutW (wc := [(xo_8_rrriirrriiiiiiirrirrrrri mo m_la m_sz m_it ms mt m_st m_mv m_tp (nI mz) ml (nI mp) mk mv mb mw m_rd m_ac (nI ma) m_as m_wo m_ik m_ke m_tr (nI mxn_1)), (xI m_st cI 38 fs), (xI m_tr cI 16 fen__1)]) hP hD hS hA [1, 0, 2] (by decide +kernel) rfl
  refine va_calli (va_runV (As := [.int (nI i), .int 20]) (rest := []) ⟨hx, hb, hml, hown, hts⟩ (r_X8_lent l dC dI cI cZ cL cJ H.size mo m_la m_sz m_it m_st m_mv m_tp m_rd m_ac m_as m_wo m_ik m_ke m_tr ms mt ml mk mv mb mw mz mp ma mxn_1 fs fen__1 i 20 (by omega) (by omega)) (cwV 2 hts gX8_voiceMark_X8_lent rfl rfl rfl (by decide +kernel) ⟨Nat.le_of_ble_eq_true rfl, Nat.le_of_ble_eq_true rfl⟩) (pvW 8 1 hK hP rfl rfl hc_2) rfl rfl hl.1 rfl (lv_room (Nat.le_of_ble_eq_true rfl)) dX8_voiceMark_10 ⟨Nat.le_of_ble_eq_true rfl, Nat.le_of_ble_eq_true rfl⟩) hS (fun q _ h => hc_2.2.2 q h) hc_2.2.2 (fun r_2 u_2 t_2 H1 locs ht hvm h_2 hB hz1 hk1 hS => ?_)
  refine xl_2_4 hB (fun mxn_2 fen__2 hP1 hD1 hF_2_0 hF_2_1 => ?_)
  clear hB
  rw [ht] at hP1
  obtain ⟨hP, hD⟩ := va_join (wr := []) (w1 := [(xo_8_rrriirrriiiiiiirrirrrrri mo m_la m_sz m_it ms mt m_st m_mv m_tp (nI mz) ml (nI mp) mk mv mb mw m_rd m_ac (nI ma) m_as m_wo m_ik m_ke m_tr (nI mxn_2)), (xI m_st cI 38 fs), (xI m_tr cI 16 fen__2)]) hP hD [1, 0, 2] [] rfl rfl (by decide +kernel) (by decide +kernel) hk1 hc_2.2.2 hP1 hD1
  generalize H1 = H at hP hS ⊢
  have hP : va_P (dC, dI) vwCl [(xo_8_rrriirrriiiiiiirrirrrrri mo m_la m_sz m_it ms mt m_st m_mv m_tp (nI mz) ml (nI mp) mk mv mb mw m_rd m_ac (nI ma) m_as m_wo m_ik m_ke m_tr (nI mxn_2)), (xI m_st cI 38 fs), (xI m_tr cI 16 fen__2)] H := hP
  have hD := dto hP hD
  refine lv_aload_n hx hb dX8_voiceMark_13 rfl (lv_at hl 0 rfl) ?_
  refine va_get (D := (dC, dI)) (ci := 8) (v := .ref m_st) (C := RX8) (T := TX8) (N := 24) hx hb hts i_X8_voiceMark_X8 hown hK hP 0 rfl rfl 5 (by decide) (hts _ mx_X8_voiceMark_1) (fun _ h9 => h9) rfl dX8_voiceMark_14 ?_
  refine lv_bipush (v := 20) hx hb dX8_voiceMark_17 (by decide) ?_
  refine lv_iload_n hx hb dX8_voiceMark_19 rfl (lv_at hl 1 rfl) ?_
  refine lv_iadd hx hb dX8_voiceMark_20 ?_
  refine lv_topi (fun v_3 e_3 => ?_)
  obtain rfl : v_3 = (nI (20 + i)) := (e_3).trans (nI_add 20 i)
  refine va_iald hx hb hK hP 1 0 rfl rfl (vp_in_nI (by omega) (by omega)) dX8_voiceMark_21 ?_
  refine lv_topi (fun v_4 e_4 => ?_)
  have e_4 : v_4 = fs (20 + i) := e_4.trans (congrArg fs (nI_clamp (by omega)))
  refine lv_iadd hx hb dX8_voiceMark_22 ?_
  refine lv_topi (fun v_5 e_5 => ?_)
  have hX9 := cut2 (wc := [(xo_8_rrriirrriiiiiiirrirrrrri mo m_la m_sz m_it ms mt m_st m_mv m_tp (nI mz) ml (nI mp) mk mv mb mw m_rd m_ac (nI ma) m_as m_wo m_ik m_ke m_tr (nI mxn_2)), (xI m_st cI 38 fs), (xI m_tr cI 16 fen__2)]) hP hD [0, 1, 2] (by decide +kernel) rfl
  exact W.iret (v := v_5) hx hb hr (fun t ht hW => ⟨⟨v_5, (), rfl, (lf_X8_voiceMark_2 hmx hi hF_1_0 hF_1_1 hF_2_0 hF_2_1 h_2 e_4 e_5), ⟨mxn_2, fen__2, va_Ht ht hX9.1, hX9.2, (by omega), (lf_X8_voiceMark_1 hmx hi hF_1_0 hF_1_1 hF_2_0 hF_2_1 h_2 e_4 e_5)⟩⟩, hS.F ht⟩) hS.2.2 dX8_voiceMark_23
theorem lf_X8_dutchSize_1 {mx : Nat} {fs : Nat → Int32} {fe_ : Nat → Int32} {i : Nat} {mxn_1 : Nat} {fen__1 : Nat → Int32} {mxn_2 : Nat} {fen__2 : Nat → Int32} {r_2 : Int32} {v_3 : Int32} (hmx : mx ≤ 16) (hi : i < 6) (hF_1_0 : mxn_1 ≤ 16) (hF_1_1 : lvX 13 (mx, fe_) = (mxn_1, fen__1)) (hF_2_0 : mxn_2 ≤ 16) (hF_2_1 : (lentM fs i 10 (mxn_1, fen__1)).2 = (mxn_2, fen__2)) (h_2 : r_2 = ((lentM fs i 10 (mxn_1, fen__1)).1)) (e_3 : v_3 = (r_2 - 100)) : (dsM fs i (mx, fe_)).2 = (mxn_2, fen__2) := by
  first
  | omega
  | (simp only [dsM]; grind)
theorem lf_X8_dutchSize_2 {mx : Nat} {fs : Nat → Int32} {fe_ : Nat → Int32} {i : Nat} {mxn_1 : Nat} {fen__1 : Nat → Int32} {mxn_2 : Nat} {fen__2 : Nat → Int32} {r_2 : Int32} {v_3 : Int32} (hmx : mx ≤ 16) (hi : i < 6) (hF_1_0 : mxn_1 ≤ 16) (hF_1_1 : lvX 13 (mx, fe_) = (mxn_1, fen__1)) (hF_2_0 : mxn_2 ≤ 16) (hF_2_1 : (lentM fs i 10 (mxn_1, fen__1)).2 = (mxn_2, fen__2)) (h_2 : r_2 = ((lentM fs i 10 (mxn_1, fen__1)).1)) (e_3 : v_3 = (r_2 - 100)) : v_3 = ((dsM fs i (mx, fe_)).1) := by
  first
  | omega
  | (simp only [dsM]; grind)
set_option maxHeartbeats 4000000 in
set_option maxRecDepth 100000 in
theorem r_X8_dutchSize (l : Launch) (dC : Nat → ClassId) (dI : Nat → Nat → Nat) (cI cZ cL cJ : ClassId) (sz : Nat) (mo : Nat) (m_la : Nat) (m_sz : Nat) (m_it : Nat) (m_st : Nat) (m_mv : Nat) (m_tp : Nat) (m_rd : Nat) (m_ac : Nat) (m_as : Nat) (m_wo : Nat) (m_ik : Nat) (m_ke : Nat) (m_tr : Nat) (ms : Int32) (mt : Int32) (ml : Int32) (mk : Int32) (mv : Int32) (mb : Int32) (mw : Int32) (mz : Nat) (mp : Nat) (ma : Nat) (mx : Nat) (fs : Nat → Int32) (fe_ : Nat → Int32) (i : Nat) (hmx : mx ≤ 16) (hi : i < 6) : Met l yX8_dutchSize wsX8_dutchSize ({ frames := 2, cells := 0, slots := 0, locals := 43 }) (va_Pc [.ref mo, .int (nI i)] (fun U => U.heap.size = sz ∧ va_P (dC, dI) vwCl [(xo_8_rrriirrriiiiiiirrirrrrri mo m_la m_sz m_it ms mt m_st m_mv m_tp (nI mz) ml (nI mp) mk mv mb mw m_rd m_ac (nI ma) m_as m_wo m_ik m_ke m_tr (nI mx)), (xI m_st cI 38 fs), (xI m_tr cI 16 fe_)] U.heap ∧ va_K (dC, dI) vwCl [(cI, .int), (cZ, .boolean), (cL, .object RX3), (cJ, .array .int)] U ∧ va_D (fun _ => True) [(xo_8_rrriirrriiiiiiirrirrrrri mo m_la m_sz m_it ms mt m_st m_mv m_tp (nI mz) ml (nI mp) mk mv mb mw m_rd m_ac (nI ma) m_as m_wo m_ik m_ke m_tr (nI mx)), (xI m_st cI 38 fs), (xI m_tr cI 16 fe_)])) (va_Qi (fun r (_ : Unit) => r = ((dsM fs i (mx, fe_)).1)) (fun (_ : Unit) t => ∃ (mxn : Nat) (fen_ : Nat → Int32), va_P (dC, dI) vwCl [(xo_8_rrriirrriiiiiiirrirrrrri mo m_la m_sz m_it ms mt m_st m_mv m_tp (nI mz) ml (nI mp) mk mv mb mw m_rd m_ac (nI ma) m_as m_wo m_ik m_ke m_tr (nI mxn)), (xI m_st cI 38 fs), (xI m_tr cI 16 fen_)] t.heap ∧ va_D (va_A [(xo_8_rrriirrriiiiiiirrirrrrri mo m_la m_sz m_it ms mt m_st m_mv m_tp (nI mz) ml (nI mp) mk mv mb mw m_rd m_ac (nI ma) m_as m_wo m_ik m_ke m_tr (nI mx)), (xI m_st cI 38 fs), (xI m_tr cI 16 fe_)] sz) [(xo_8_rrriirrriiiiiiirrirrrrri mo m_la m_sz m_it ms mt m_st m_mv m_tp (nI mz) ml (nI mp) mk mv mb mw m_rd m_ac (nI ma) m_as m_wo m_ik m_ke m_tr (nI mxn)), (xI m_st cI 38 fs), (xI m_tr cI 16 fen_)] ∧ mxn ≤ 16 ∧ (dsM fs i (mx, fe_)).2 = (mxn, fen_)) (va_A [(xo_8_rrriirrriiiiiiirrirrrrri mo m_la m_sz m_it ms mt m_st m_mv m_tp (nI mz) ml (nI mp) mk mv mb mw m_rd m_ac (nI ma) m_as m_wo m_ik m_ke m_tr (nI mx)), (xI m_st cI 38 fs), (xI m_tr cI 16 fe_)] sz)) 0 0 (va_A [(xo_8_rrriirrriiiiiiirrirrrrri mo m_la m_sz m_it ms mt m_st m_mv m_tp (nI mz) ml (nI mp) mk mv mb mw m_rd m_ac (nI ma) m_as m_wo m_ik m_ke m_tr (nI mx)), (xI m_st cI 38 fs), (xI m_tr cI 16 fe_)] sz) := by
  refine Met.ofW (cc := cX8_dutchSize) (maxL := 2) (ret := (some .int)) (by decide) rfl ?_
  intro p e s m args below meth c s₁ B hml hv
  obtain ⟨rfl, hsz, hP, hK, hD0⟩ := hv
  have hx := B.exec
  have hb := B.bytes
  have hr := B.returns
  have hts := atoms_spec (ws := wsX8_dutchSize) B.pre
  have hown : s.vm.findClass RX8 = some m.cls := findClass_of_methodNamed B.named
  have hlocks := B.notSynchronized
  subst hsz
  have hD := hD0.self (sz := s.heap.size)
  generalize hAe : va_A [(xo_8_rrriirrriiiiiiirrirrrrri mo m_la m_sz m_it ms mt m_st m_mv m_tp (nI mz) ml (nI mp) mk mv mb mw m_rd m_ac (nI ma) m_as m_wo m_ik m_ke m_tr (nI mx)), (xI m_st cI 38 fs), (xI m_tr cI 16 fe_)] s.heap.size = A at hD ⊢
  have hA : ∀ q : Nat, s.heap.size ≤ q → A q := fun q h => by rw [← hAe]; exact Or.inr h
  have hS : va_S A s.heap s.heap [] := va_S.rf
  have hP : va_P (dC, dI) vwCl [(xo_8_rrriirrriiiiiiirrirrrrri mo m_la m_sz m_it ms mt m_st m_mv m_tp (nI mz) ml (nI mp) mk mv mb mw m_rd m_ac (nI ma) m_as m_wo m_ik m_ke m_tr (nI mx)), (xI m_st cI 38 fs), (xI m_tr cI 16 fe_)] s.heap := hP
  have hl := lv_entry ([.ref mo, .int (nI i)]) (n := 2) (Nat.le_of_ble_eq_true rfl)
  rw [lg_entry_eq]
  generalize (lg_sl ([.ref mo, .int (nI i)]) ++ List.replicate (2 - (lg_sl ([.ref mo, .int (nI i)])).length) Slot.unset).toArray = ls at hl ⊢
  have hl : lv_has ls 2 [(0, .ref mo), (1, .int (nI i))] := hl
  refine lv_aload_n hx hb dX8_dutchSize_0 rfl (lv_at hl 0 rfl) ?_
  refine lv_bipush (v := 13) hx hb dX8_dutchSize_1 (by decide) ?_
  have hc_1 := cutW (wc := [(xo_8_rrriirrriiiiiiirrirrrrri mo m_la m_sz m_it ms mt m_st m_mv m_tp (nI mz) ml (nI mp) mk mv mb mw m_rd m_ac (nI ma) m_as m_wo m_ik m_ke m_tr (nI mx)), (xI m_tr cI 16 fe_)]) hP hD hS hA [0, 2] (by decide +kernel) rfl
  refine va_callv (va_runV (As := [.int 13]) (rest := []) ⟨hx, hb, hml, hown, hts⟩ (r_X8_begin l dC dI cI cZ cL cJ s.heap.size mo m_la m_sz m_it m_st m_mv m_tp m_rd m_ac m_as m_wo m_ik m_ke m_tr ms mt ml mk mv mb mw mz mp ma mx fe_ 13 (by omega)) (cwV 1 hts gX8_dutchSize_X8_begin rfl rfl rfl (by decide +kernel) ⟨Nat.le_of_ble_eq_true rfl, Nat.le_of_ble_eq_true rfl⟩) (pvW 8 0 hK hP rfl rfl hc_1) rfl rfl hl.1 rfl (lv_room (Nat.le_of_ble_eq_true rfl)) dX8_dutchSize_3 ⟨Nat.le_of_ble_eq_true rfl, Nat.le_of_ble_eq_true rfl⟩) hS (fun q _ h => hc_1.2.2 q h) hc_1.2.2 (fun u_1 t_1 H1 locs ht hvm h_1 hB hz1 hk1 hS => ?_)
  refine xl_2_4 hB (fun mxn_1 fen__1 hP1 hD1 hF_1_0 hF_1_1 => ?_)
  clear hB
  rw [ht] at hP1
  obtain ⟨hP, hD⟩ := va_join (wr := [(xI m_st cI 38 fs)]) (w1 := [(xo_8_rrriirrriiiiiiirrirrrrri mo m_la m_sz m_it ms mt m_st m_mv m_tp (nI mz) ml (nI mp) mk mv mb mw m_rd m_ac (nI ma) m_as m_wo m_ik m_ke m_tr (nI mxn_1)), (xI m_tr cI 16 fen__1)]) hP hD [0, 2] [1] rfl rfl (by decide +kernel) (by decide +kernel) hk1 hc_1.2.2 hP1 hD1
  generalize H1 = H at hP hS ⊢
  have hP : va_P (dC, dI) vwCl [(xI m_st cI 38 fs), (xo_8_rrriirrriiiiiiirrirrrrri mo m_la m_sz m_it ms mt m_st m_mv m_tp (nI mz) ml (nI mp) mk mv mb mw m_rd m_ac (nI ma) m_as m_wo m_ik m_ke m_tr (nI mxn_1)), (xI m_tr cI 16 fen__1)] H := hP
  have hD := dto hP hD
  refine lv_aload_n hx hb dX8_dutchSize_6 rfl (lv_at hl 0 rfl) ?_
  refine lv_iload_n hx hb dX8_dutchSize_7 rfl (lv_at hl 1 rfl) ?_
  refine lv_bipush (v := 10) hx hb dX8_dutchSize_8 (by decide) ?_
  have hc_2 := cutW (wc := [(xo_8_rrriirrriiiiiiirrirrrrri mo m_la m_sz m_it ms mt m_st m_mv m_tp (nI mz) ml (nI mp) mk mv mb mw m_rd m_ac (nI ma) m_as m_wo m_ik m_ke m_tr (nI mxn_1)), (xI m_st cI 38 fs), (xI m_tr cI 16 fen__1)]) hP hD hS hA [1, 0, 2] (by decide +kernel) rfl
  refine va_calli (va_runV (As := [.int (nI i), .int 10]) (rest := []) ⟨hx, hb, hml, hown, hts⟩ (r_X8_lent l dC dI cI cZ cL cJ H.size mo m_la m_sz m_it m_st m_mv m_tp m_rd m_ac m_as m_wo m_ik m_ke m_tr ms mt ml mk mv mb mw mz mp ma mxn_1 fs fen__1 i 10 (by omega) (by omega)) (cwV 2 hts gX8_dutchSize_X8_lent rfl rfl rfl (by decide +kernel) ⟨Nat.le_of_ble_eq_true rfl, Nat.le_of_ble_eq_true rfl⟩) (pvW 8 1 hK hP rfl rfl hc_2) rfl rfl hl.1 rfl (lv_room (Nat.le_of_ble_eq_true rfl)) dX8_dutchSize_10 ⟨Nat.le_of_ble_eq_true rfl, Nat.le_of_ble_eq_true rfl⟩) hS (fun q _ h => hc_2.2.2 q h) hc_2.2.2 (fun r_2 u_2 t_2 H1 locs ht hvm h_2 hB hz1 hk1 hS => ?_)
  refine xl_2_4 hB (fun mxn_2 fen__2 hP1 hD1 hF_2_0 hF_2_1 => ?_)
  clear hB
  rw [ht] at hP1
  obtain ⟨hP, hD⟩ := va_join (wr := []) (w1 := [(xo_8_rrriirrriiiiiiirrirrrrri mo m_la m_sz m_it ms mt m_st m_mv m_tp (nI mz) ml (nI mp) mk mv mb mw m_rd m_ac (nI ma) m_as m_wo m_ik m_ke m_tr (nI mxn_2)), (xI m_st cI 38 fs), (xI m_tr cI 16 fen__2)]) hP hD [1, 0, 2] [] rfl rfl (by decide +kernel) (by decide +kernel) hk1 hc_2.2.2 hP1 hD1
  generalize H1 = H at hP hS ⊢
  have hP : va_P (dC, dI) vwCl [(xo_8_rrriirrriiiiiiirrirrrrri mo m_la m_sz m_it ms mt m_st m_mv m_tp (nI mz) ml (nI mp) mk mv mb mw m_rd m_ac (nI ma) m_as m_wo m_ik m_ke m_tr (nI mxn_2)), (xI m_st cI 38 fs), (xI m_tr cI 16 fen__2)] H := hP
  have hD := dto hP hD
  refine lv_bipush (v := 100) hx hb dX8_dutchSize_13 (by decide) ?_
  refine lv_isub hx hb dX8_dutchSize_15 ?_
  refine lv_topi (fun v_3 e_3 => ?_)
  have hX9 := cut2 (wc := [(xo_8_rrriirrriiiiiiirrirrrrri mo m_la m_sz m_it ms mt m_st m_mv m_tp (nI mz) ml (nI mp) mk mv mb mw m_rd m_ac (nI ma) m_as m_wo m_ik m_ke m_tr (nI mxn_2)), (xI m_st cI 38 fs), (xI m_tr cI 16 fen__2)]) hP hD [0, 1, 2] (by decide +kernel) rfl
  exact W.iret (v := v_3) hx hb hr (fun t ht hW => ⟨⟨v_3, (), rfl, (lf_X8_dutchSize_2 hmx hi hF_1_0 hF_1_1 hF_2_0 hF_2_1 h_2 e_3), ⟨mxn_2, fen__2, va_Ht ht hX9.1, hX9.2, (by omega), (lf_X8_dutchSize_1 hmx hi hF_1_0 hF_1_1 hF_2_0 hF_2_1 h_2 e_3)⟩⟩, hS.F ht⟩) hS.2.2 dX8_dutchSize_16
theorem lf_X8_sizeOfDutch_1 {mx : Nat} {fs : Nat → Int32} {fe_ : Nat → Int32} {i : Nat} {v_2 : Int32} {mxn_4 : Nat} {fen__4 : Nat → Int32} {r_4 : Int32} (hmx : mx ≤ 16) (hi : i < 6) (e_2 : v_2 = fs (14 + i)) (c_3 : ¬ (v_2 = 5)) (hF_4_0 : mxn_4 ≤ 16) (hF_4_1 : (dsM fs i (mx, fe_)).2 = (mxn_4, fen__4)) (h_4 : r_4 = ((dsM fs i (mx, fe_)).1)) : (sdM fs i (mx, fe_)).2 = (mxn_4, fen__4) := by
  first
  | omega
  | (simp only [sdM]; grind)
theorem lf_X8_sizeOfDutch_2 {mx : Nat} {fs : Nat → Int32} {fe_ : Nat → Int32} {i : Nat} {v_2 : Int32} {mxn_4 : Nat} {fen__4 : Nat → Int32} {r_4 : Int32} (hmx : mx ≤ 16) (hi : i < 6) (e_2 : v_2 = fs (14 + i)) (c_3 : ¬ (v_2 = 5)) (hF_4_0 : mxn_4 ≤ 16) (hF_4_1 : (dsM fs i (mx, fe_)).2 = (mxn_4, fen__4)) (h_4 : r_4 = ((dsM fs i (mx, fe_)).1)) : r_4 = ((sdM fs i (mx, fe_)).1) := by
  first
  | omega
  | (simp only [sdM]; grind)
theorem lf_X8_sizeOfDutch_3 {mx : Nat} {fs : Nat → Int32} {fe_ : Nat → Int32} {i : Nat} {v_2 : Int32} {mxn_5 : Nat} {fen__5 : Nat → Int32} {mxn_6 : Nat} {fen__6 : Nat → Int32} {r_6 : Int32} {v_7 : Int32} (hmx : mx ≤ 16) (hi : i < 6) (e_2 : v_2 = fs (14 + i)) (c_3 : v_2 = 5) (hF_5_0 : mxn_5 ≤ 16) (hF_5_1 : lvX 14 (mx, fe_) = (mxn_5, fen__5)) (hF_6_0 : mxn_6 ≤ 16) (hF_6_1 : (dsM fs i (mxn_5, fen__5)).2 = (mxn_6, fen__6)) (h_6 : r_6 = ((dsM fs i (mxn_5, fen__5)).1)) (e_7 : v_7 = (2 * r_6)) : (sdM fs i (mx, fe_)).2 = (mxn_6, fen__6) := by
  first
  | omega
  | (simp only [sdM]; grind)
theorem lf_X8_sizeOfDutch_4 {mx : Nat} {fs : Nat → Int32} {fe_ : Nat → Int32} {i : Nat} {v_2 : Int32} {mxn_5 : Nat} {fen__5 : Nat → Int32} {mxn_6 : Nat} {fen__6 : Nat → Int32} {r_6 : Int32} {v_7 : Int32} (hmx : mx ≤ 16) (hi : i < 6) (e_2 : v_2 = fs (14 + i)) (c_3 : v_2 = 5) (hF_5_0 : mxn_5 ≤ 16) (hF_5_1 : lvX 14 (mx, fe_) = (mxn_5, fen__5)) (hF_6_0 : mxn_6 ≤ 16) (hF_6_1 : (dsM fs i (mxn_5, fen__5)).2 = (mxn_6, fen__6)) (h_6 : r_6 = ((dsM fs i (mxn_5, fen__5)).1)) (e_7 : v_7 = (2 * r_6)) : v_7 = ((sdM fs i (mx, fe_)).1) := by
  first
  | omega
  | (simp only [sdM]; grind)
set_option maxHeartbeats 4000000 in
set_option maxRecDepth 100000 in
theorem r_X8_sizeOfDutch (l : Launch) (dC : Nat → ClassId) (dI : Nat → Nat → Nat) (cI cZ cL cJ : ClassId) (sz : Nat) (mo : Nat) (m_la : Nat) (m_sz : Nat) (m_it : Nat) (m_st : Nat) (m_mv : Nat) (m_tp : Nat) (m_rd : Nat) (m_ac : Nat) (m_as : Nat) (m_wo : Nat) (m_ik : Nat) (m_ke : Nat) (m_tr : Nat) (ms : Int32) (mt : Int32) (ml : Int32) (mk : Int32) (mv : Int32) (mb : Int32) (mw : Int32) (mz : Nat) (mp : Nat) (ma : Nat) (mx : Nat) (fs : Nat → Int32) (fe_ : Nat → Int32) (i : Nat) (hmx : mx ≤ 16) (hi : i < 6) : Met l yX8_sizeOfDutch wsX8_sizeOfDutch ({ frames := 3, cells := 0, slots := 0, locals := 64 }) (va_Pc [.ref mo, .int (nI i)] (fun U => U.heap.size = sz ∧ va_P (dC, dI) vwCl [(xo_8_rrriirrriiiiiiirrirrrrri mo m_la m_sz m_it ms mt m_st m_mv m_tp (nI mz) ml (nI mp) mk mv mb mw m_rd m_ac (nI ma) m_as m_wo m_ik m_ke m_tr (nI mx)), (xI m_st cI 38 fs), (xI m_tr cI 16 fe_)] U.heap ∧ va_K (dC, dI) vwCl [(cI, .int), (cZ, .boolean), (cL, .object RX3), (cJ, .array .int)] U ∧ va_D (fun _ => True) [(xo_8_rrriirrriiiiiiirrirrrrri mo m_la m_sz m_it ms mt m_st m_mv m_tp (nI mz) ml (nI mp) mk mv mb mw m_rd m_ac (nI ma) m_as m_wo m_ik m_ke m_tr (nI mx)), (xI m_st cI 38 fs), (xI m_tr cI 16 fe_)])) (va_Qi (fun r (_ : Unit) => r = ((sdM fs i (mx, fe_)).1)) (fun (_ : Unit) t => ∃ (mxn : Nat) (fen_ : Nat → Int32), va_P (dC, dI) vwCl [(xo_8_rrriirrriiiiiiirrirrrrri mo m_la m_sz m_it ms mt m_st m_mv m_tp (nI mz) ml (nI mp) mk mv mb mw m_rd m_ac (nI ma) m_as m_wo m_ik m_ke m_tr (nI mxn)), (xI m_st cI 38 fs), (xI m_tr cI 16 fen_)] t.heap ∧ va_D (va_A [(xo_8_rrriirrriiiiiiirrirrrrri mo m_la m_sz m_it ms mt m_st m_mv m_tp (nI mz) ml (nI mp) mk mv mb mw m_rd m_ac (nI ma) m_as m_wo m_ik m_ke m_tr (nI mx)), (xI m_st cI 38 fs), (xI m_tr cI 16 fe_)] sz) [(xo_8_rrriirrriiiiiiirrirrrrri mo m_la m_sz m_it ms mt m_st m_mv m_tp (nI mz) ml (nI mp) mk mv mb mw m_rd m_ac (nI ma) m_as m_wo m_ik m_ke m_tr (nI mxn)), (xI m_st cI 38 fs), (xI m_tr cI 16 fen_)] ∧ mxn ≤ 16 ∧ (sdM fs i (mx, fe_)).2 = (mxn, fen_)) (va_A [(xo_8_rrriirrriiiiiiirrirrrrri mo m_la m_sz m_it ms mt m_st m_mv m_tp (nI mz) ml (nI mp) mk mv mb mw m_rd m_ac (nI ma) m_as m_wo m_ik m_ke m_tr (nI mx)), (xI m_st cI 38 fs), (xI m_tr cI 16 fe_)] sz)) 0 0 (va_A [(xo_8_rrriirrriiiiiiirrirrrrri mo m_la m_sz m_it ms mt m_st m_mv m_tp (nI mz) ml (nI mp) mk mv mb mw m_rd m_ac (nI ma) m_as m_wo m_ik m_ke m_tr (nI mx)), (xI m_st cI 38 fs), (xI m_tr cI 16 fe_)] sz) := by
  refine Met.ofW (cc := cX8_sizeOfDutch) (maxL := 2) (ret := (some .int)) (by decide) rfl ?_
  intro p e s m args below meth c s₁ B hml hv
  obtain ⟨rfl, hsz, hP, hK, hD0⟩ := hv
  have hx := B.exec
  have hb := B.bytes
  have hr := B.returns
  have hts := atoms_spec (ws := wsX8_sizeOfDutch) B.pre
  have hown : s.vm.findClass RX8 = some m.cls := findClass_of_methodNamed B.named
  have hlocks := B.notSynchronized
  subst hsz
  have hD := hD0.self (sz := s.heap.size)
  generalize hAe : va_A [(xo_8_rrriirrriiiiiiirrirrrrri mo m_la m_sz m_it ms mt m_st m_mv m_tp (nI mz) ml (nI mp) mk mv mb mw m_rd m_ac (nI ma) m_as m_wo m_ik m_ke m_tr (nI mx)), (xI m_st cI 38 fs), (xI m_tr cI 16 fe_)] s.heap.size = A at hD ⊢
  have hA : ∀ q : Nat, s.heap.size ≤ q → A q := fun q h => by rw [← hAe]; exact Or.inr h
  have hS : va_S A s.heap s.heap [] := va_S.rf
  have hP : va_P (dC, dI) vwCl [(xo_8_rrriirrriiiiiiirrirrrrri mo m_la m_sz m_it ms mt m_st m_mv m_tp (nI mz) ml (nI mp) mk mv mb mw m_rd m_ac (nI ma) m_as m_wo m_ik m_ke m_tr (nI mx)), (xI m_st cI 38 fs), (xI m_tr cI 16 fe_)] s.heap := hP
  have hl := lv_entry ([.ref mo, .int (nI i)]) (n := 2) (Nat.le_of_ble_eq_true rfl)
  rw [lg_entry_eq]
  generalize (lg_sl ([.ref mo, .int (nI i)]) ++ List.replicate (2 - (lg_sl ([.ref mo, .int (nI i)])).length) Slot.unset).toArray = ls at hl ⊢
  have hl : lv_has ls 2 [(0, .ref mo), (1, .int (nI i))] := hl
  refine lv_aload_n hx hb dX8_sizeOfDutch_0 rfl (lv_at hl 0 rfl) ?_
  refine va_get (D := (dC, dI)) (ci := 8) (v := .ref m_st) (C := RX8) (T := TX8) (N := 24) hx hb hts i_X8_sizeOfDutch_X8 hown hK hP 0 rfl rfl 5 (by decide) (hts _ mx_X8_sizeOfDutch_1) (fun _ h9 => h9) rfl dX8_sizeOfDutch_1 ?_
  refine lv_bipush (v := 14) hx hb dX8_sizeOfDutch_4 (by decide) ?_
  refine lv_iload_n hx hb dX8_sizeOfDutch_6 rfl (lv_at hl 1 rfl) ?_
  refine lv_iadd hx hb dX8_sizeOfDutch_7 ?_
  refine lv_topi (fun v_1 e_1 => ?_)
  obtain rfl : v_1 = (nI (14 + i)) := (e_1).trans (nI_add 14 i)
  refine va_iald hx hb hK hP 1 0 rfl rfl (vp_in_nI (by omega) (by omega)) dX8_sizeOfDutch_8 ?_
  refine lv_topi (fun v_2 e_2 => ?_)
  have e_2 : v_2 = fs (14 + i) := e_2.trans (congrArg fs (nI_clamp (by omega)))
  refine lv_iconst (v := 5) hx hb dX8_sizeOfDutch_9 (by decide) ?_
  refine lv_icmp_ne (tgt := 27) hx hb dX8_sizeOfDutch_10 (by decide) (fun c_3 => ?_) (fun c_3 => ?_)
  · skip
    refine lv_aload_n hx hb dX8_sizeOfDutch_27 rfl (lv_at hl 0 rfl) ?_
    refine lv_iload_n hx hb dX8_sizeOfDutch_28 rfl (lv_at hl 1 rfl) ?_
    have hc_4 := cutW (wc := [(xo_8_rrriirrriiiiiiirrirrrrri mo m_la m_sz m_it ms mt m_st m_mv m_tp (nI mz) ml (nI mp) mk mv mb mw m_rd m_ac (nI ma) m_as m_wo m_ik m_ke m_tr (nI mx)), (xI m_st cI 38 fs), (xI m_tr cI 16 fe_)]) hP hD hS hA [0, 1, 2] (by decide +kernel) rfl
    refine va_calli (va_runV (As := [.int (nI i)]) (rest := []) ⟨hx, hb, hml, hown, hts⟩ (r_X8_dutchSize l dC dI cI cZ cL cJ s.heap.size mo m_la m_sz m_it m_st m_mv m_tp m_rd m_ac m_as m_wo m_ik m_ke m_tr ms mt ml mk mv mb mw mz mp ma mx fs fe_ i (by omega) (by omega)) (cwV 1 hts gX8_sizeOfDutch_X8_dutchSize rfl rfl rfl (by decide +kernel) ⟨Nat.le_of_ble_eq_true rfl, Nat.le_of_ble_eq_true rfl⟩) (pvW 8 0 hK hP rfl rfl hc_4) rfl rfl hl.1 rfl (lv_room (Nat.le_of_ble_eq_true rfl)) dX8_sizeOfDutch_29 ⟨Nat.le_of_ble_eq_true rfl, Nat.le_of_ble_eq_true rfl⟩) hS (fun q _ h => hc_4.2.2 q h) hc_4.2.2 (fun r_4 u_4 t_4 H1 locs ht hvm h_4 hB hz1 hk1 hS => ?_)
    refine xl_2_4 hB (fun mxn_4 fen__4 hP1 hD1 hF_4_0 hF_4_1 => ?_)
    clear hB
    rw [ht] at hP1
    obtain ⟨hP, hD⟩ := va_join (wr := []) (w1 := [(xo_8_rrriirrriiiiiiirrirrrrri mo m_la m_sz m_it ms mt m_st m_mv m_tp (nI mz) ml (nI mp) mk mv mb mw m_rd m_ac (nI ma) m_as m_wo m_ik m_ke m_tr (nI mxn_4)), (xI m_st cI 38 fs), (xI m_tr cI 16 fen__4)]) hP hD [0, 1, 2] [] rfl rfl (by decide +kernel) (by decide +kernel) hk1 hc_4.2.2 hP1 hD1
    generalize H1 = H at hP hS ⊢
    have hP : va_P (dC, dI) vwCl [(xo_8_rrriirrriiiiiiirrirrrrri mo m_la m_sz m_it ms mt m_st m_mv m_tp (nI mz) ml (nI mp) mk mv mb mw m_rd m_ac (nI ma) m_as m_wo m_ik m_ke m_tr (nI mxn_4)), (xI m_st cI 38 fs), (xI m_tr cI 16 fen__4)] H := hP
    have hD := dto hP hD
    have hX9 := cut2 (wc := [(xo_8_rrriirrriiiiiiirrirrrrri mo m_la m_sz m_it ms mt m_st m_mv m_tp (nI mz) ml (nI mp) mk mv mb mw m_rd m_ac (nI ma) m_as m_wo m_ik m_ke m_tr (nI mxn_4)), (xI m_st cI 38 fs), (xI m_tr cI 16 fen__4)]) hP hD [0, 1, 2] (by decide +kernel) rfl
    exact W.iret (v := r_4) hx hb hr (fun t ht hW => ⟨⟨r_4, (), rfl, (lf_X8_sizeOfDutch_2 hmx hi e_2 c_3 hF_4_0 hF_4_1 h_4), ⟨mxn_4, fen__4, va_Ht ht hX9.1, hX9.2, (by omega), (lf_X8_sizeOfDutch_1 hmx hi e_2 c_3 hF_4_0 hF_4_1 h_4)⟩⟩, hS.F ht⟩) hS.2.2 dX8_sizeOfDutch_32
  · skip
    refine lv_aload_n hx hb dX8_sizeOfDutch_13 rfl (lv_at hl 0 rfl) ?_
    refine lv_bipush (v := 14) hx hb dX8_sizeOfDutch_14 (by decide) ?_
    have hc_5 := cutW (wc := [(xo_8_rrriirrriiiiiiirrirrrrri mo m_la m_sz m_it ms mt m_st m_mv m_tp (nI mz) ml (nI mp) mk mv mb mw m_rd m_ac (nI ma) m_as m_wo m_ik m_ke m_tr (nI mx)), (xI m_tr cI 16 fe_)]) hP hD hS hA [0, 2] (by decide +kernel) rfl
    refine va_callv (va_runV (As := [.int 14]) (rest := []) ⟨hx, hb, hml, hown, hts⟩ (r_X8_begin l dC dI cI cZ cL cJ s.heap.size mo m_la m_sz m_it m_st m_mv m_tp m_rd m_ac m_as m_wo m_ik m_ke m_tr ms mt ml mk mv mb mw mz mp ma mx fe_ 14 (by omega)) (cwV 1 hts gX8_sizeOfDutch_X8_begin rfl rfl rfl (by decide +kernel) ⟨Nat.le_of_ble_eq_true rfl, Nat.le_of_ble_eq_true rfl⟩) (pvW 8 0 hK hP rfl rfl hc_5) rfl rfl hl.1 rfl (lv_room (Nat.le_of_ble_eq_true rfl)) dX8_sizeOfDutch_16 ⟨Nat.le_of_ble_eq_true rfl, Nat.le_of_ble_eq_true rfl⟩) hS (fun q _ h => hc_5.2.2 q h) hc_5.2.2 (fun u_5 t_5 H1 locs ht hvm h_5 hB hz1 hk1 hS => ?_)
    refine xl_2_4 hB (fun mxn_5 fen__5 hP1 hD1 hF_5_0 hF_5_1 => ?_)
    clear hB
    rw [ht] at hP1
    obtain ⟨hP, hD⟩ := va_join (wr := [(xI m_st cI 38 fs)]) (w1 := [(xo_8_rrriirrriiiiiiirrirrrrri mo m_la m_sz m_it ms mt m_st m_mv m_tp (nI mz) ml (nI mp) mk mv mb mw m_rd m_ac (nI ma) m_as m_wo m_ik m_ke m_tr (nI mxn_5)), (xI m_tr cI 16 fen__5)]) hP hD [0, 2] [1] rfl rfl (by decide +kernel) (by decide +kernel) hk1 hc_5.2.2 hP1 hD1
    generalize H1 = H at hP hS ⊢
    have hP : va_P (dC, dI) vwCl [(xI m_st cI 38 fs), (xo_8_rrriirrriiiiiiirrirrrrri mo m_la m_sz m_it ms mt m_st m_mv m_tp (nI mz) ml (nI mp) mk mv mb mw m_rd m_ac (nI ma) m_as m_wo m_ik m_ke m_tr (nI mxn_5)), (xI m_tr cI 16 fen__5)] H := hP
    have hD := dto hP hD
    refine lv_iconst (v := 2) hx hb dX8_sizeOfDutch_19 (by decide) ?_
    refine lv_aload_n hx hb dX8_sizeOfDutch_20 rfl (lv_at hl 0 rfl) ?_
    refine lv_iload_n hx hb dX8_sizeOfDutch_21 rfl (lv_at hl 1 rfl) ?_
    have hc_6 := cutW (wc := [(xo_8_rrriirrriiiiiiirrirrrrri mo m_la m_sz m_it ms mt m_st m_mv m_tp (nI mz) ml (nI mp) mk mv mb mw m_rd m_ac (nI ma) m_as m_wo m_ik m_ke m_tr (nI mxn_5)), (xI m_st cI 38 fs), (xI m_tr cI 16 fen__5)]) hP hD hS hA [1, 0, 2] (by decide +kernel) rfl
    refine va_calli (va_runV (As := [.int (nI i)]) (rest := [.int 2]) ⟨hx, hb, hml, hown, hts⟩ (r_X8_dutchSize l dC dI cI cZ cL cJ H.size mo m_la m_sz m_it m_st m_mv m_tp m_rd m_ac m_as m_wo m_ik m_ke m_tr ms mt ml mk mv mb mw mz mp ma mxn_5 fs fen__5 i (by omega) (by omega)) (cwV 1 hts gX8_sizeOfDutch_X8_dutchSize rfl rfl rfl (by decide +kernel) ⟨Nat.le_of_ble_eq_true rfl, Nat.le_of_ble_eq_true rfl⟩) (pvW 8 1 hK hP rfl rfl hc_6) rfl rfl hl.1 rfl (lv_room (Nat.le_of_ble_eq_true rfl)) dX8_sizeOfDutch_22 ⟨Nat.le_of_ble_eq_true rfl, Nat.le_of_ble_eq_true rfl⟩) hS (fun q _ h => hc_6.2.2 q h) hc_6.2.2 (fun r_6 u_6 t_6 H1 locs ht hvm h_6 hB hz1 hk1 hS => ?_)
    refine xl_2_4 hB (fun mxn_6 fen__6 hP1 hD1 hF_6_0 hF_6_1 => ?_)
    clear hB
    rw [ht] at hP1
    obtain ⟨hP, hD⟩ := va_join (wr := []) (w1 := [(xo_8_rrriirrriiiiiiirrirrrrri mo m_la m_sz m_it ms mt m_st m_mv m_tp (nI mz) ml (nI mp) mk mv mb mw m_rd m_ac (nI ma) m_as m_wo m_ik m_ke m_tr (nI mxn_6)), (xI m_st cI 38 fs), (xI m_tr cI 16 fen__6)]) hP hD [1, 0, 2] [] rfl rfl (by decide +kernel) (by decide +kernel) hk1 hc_6.2.2 hP1 hD1
    generalize H1 = H at hP hS ⊢
    have hP : va_P (dC, dI) vwCl [(xo_8_rrriirrriiiiiiirrirrrrri mo m_la m_sz m_it ms mt m_st m_mv m_tp (nI mz) ml (nI mp) mk mv mb mw m_rd m_ac (nI ma) m_as m_wo m_ik m_ke m_tr (nI mxn_6)), (xI m_st cI 38 fs), (xI m_tr cI 16 fen__6)] H := hP
    have hD := dto hP hD
    refine lv_imul hx hb dX8_sizeOfDutch_25 ?_
    refine lv_topi (fun v_7 e_7 => ?_)
    have hX9 := cut2 (wc := [(xo_8_rrriirrriiiiiiirrirrrrri mo m_la m_sz m_it ms mt m_st m_mv m_tp (nI mz) ml (nI mp) mk mv mb mw m_rd m_ac (nI ma) m_as m_wo m_ik m_ke m_tr (nI mxn_6)), (xI m_st cI 38 fs), (xI m_tr cI 16 fen__6)]) hP hD [0, 1, 2] (by decide +kernel) rfl
    exact W.iret (v := v_7) hx hb hr (fun t ht hW => ⟨⟨v_7, (), rfl, (lf_X8_sizeOfDutch_4 hmx hi e_2 c_3 hF_5_0 hF_5_1 hF_6_0 hF_6_1 h_6 e_7), ⟨mxn_6, fen__6, va_Ht ht hX9.1, hX9.2, (by omega), (lf_X8_sizeOfDutch_3 hmx hi e_2 c_3 hF_5_0 hF_5_1 hF_6_0 hF_6_1 h_6 e_7)⟩⟩, hS.F ht⟩) hS.2.2 dX8_sizeOfDutch_26
theorem lf_X8_markOf_1 {mx : Nat} {fs : Nat → Int32} {fe_ : Nat → Int32} {i : Nat} {v_2 : Int32} {mxn_6 : Nat} {fen__6 : Nat → Int32} {mxn_7 : Nat} {fen__7 : Nat → Int32} {r_7 : Int32} {mxn_8 : Nat} {fen__8 : Nat → Int32} {r_8 : Int32} {v_9 : Int32} (hmx : mx ≤ 16) (hi : i < 6) (e_2 : v_2 = fs (14 + i)) (c_3 : ¬ (v_2 = 2)) (c_4 : ¬ (v_2 = 3)) (c_5 : ¬ (v_2 = 1)) (hF_6_0 : mxn_6 ≤ 16) (hF_6_1 : lvX 23 (mx, fe_) = (mxn_6, fen__6)) (hF_7_0 : mxn_7 ≤ 16) (hF_7_1 : (lentM fs i 20 (mxn_6, fen__6)).2 = (mxn_7, fen__7)) (h_7 : r_7 = ((lentM fs i 20 (mxn_6, fen__6)).1)) (hF_8_0 : mxn_8 ≤ 16) (hF_8_1 : (sdM fs i (mxn_7, fen__7)).2 = (mxn_8, fen__8)) (h_8 : r_8 = ((sdM fs i (mxn_7, fen__7)).1)) (e_9 : v_9 = (r_7 - r_8)) : (mkM fs i (mx, fe_)).2 = (mxn_8, fen__8) := by
  first
  | omega
  | (simp only [mkM]; grind)
theorem lf_X8_markOf_2 {mx : Nat} {fs : Nat → Int32} {fe_ : Nat → Int32} {i : Nat} {v_2 : Int32} {mxn_6 : Nat} {fen__6 : Nat → Int32} {mxn_7 : Nat} {fen__7 : Nat → Int32} {r_7 : Int32} {mxn_8 : Nat} {fen__8 : Nat → Int32} {r_8 : Int32} {v_9 : Int32} (hmx : mx ≤ 16) (hi : i < 6) (e_2 : v_2 = fs (14 + i)) (c_3 : ¬ (v_2 = 2)) (c_4 : ¬ (v_2 = 3)) (c_5 : ¬ (v_2 = 1)) (hF_6_0 : mxn_6 ≤ 16) (hF_6_1 : lvX 23 (mx, fe_) = (mxn_6, fen__6)) (hF_7_0 : mxn_7 ≤ 16) (hF_7_1 : (lentM fs i 20 (mxn_6, fen__6)).2 = (mxn_7, fen__7)) (h_7 : r_7 = ((lentM fs i 20 (mxn_6, fen__6)).1)) (hF_8_0 : mxn_8 ≤ 16) (hF_8_1 : (sdM fs i (mxn_7, fen__7)).2 = (mxn_8, fen__8)) (h_8 : r_8 = ((sdM fs i (mxn_7, fen__7)).1)) (e_9 : v_9 = (r_7 - r_8)) : v_9 = ((mkM fs i (mx, fe_)).1) := by
  first
  | omega
  | (simp only [mkM]; grind)
theorem lf_X8_markOf_3 {mx : Nat} {fs : Nat → Int32} {fe_ : Nat → Int32} {i : Nat} {v_2 : Int32} {mxn_10 : Nat} {fen__10 : Nat → Int32} {r_10 : Int32} (hmx : mx ≤ 16) (hi : i < 6) (e_2 : v_2 = fs (14 + i)) (c_3 : ¬ (v_2 = 2)) (c_4 : ¬ (v_2 = 3)) (c_5 : v_2 = 1) (hF_10_0 : mxn_10 ≤ 16) (hF_10_1 : (vmM fs i (mx, fe_)).2 = (mxn_10, fen__10)) (h_10 : r_10 = ((vmM fs i (mx, fe_)).1)) : (mkM fs i (mx, fe_)).2 = (mxn_10, fen__10) := by
  first
  | omega
  | (simp only [mkM]; grind)
theorem lf_X8_markOf_4 {mx : Nat} {fs : Nat → Int32} {fe_ : Nat → Int32} {i : Nat} {v_2 : Int32} {mxn_10 : Nat} {fen__10 : Nat → Int32} {r_10 : Int32} (hmx : mx ≤ 16) (hi : i < 6) (e_2 : v_2 = fs (14 + i)) (c_3 : ¬ (v_2 = 2)) (c_4 : ¬ (v_2 = 3)) (c_5 : v_2 = 1) (hF_10_0 : mxn_10 ≤ 16) (hF_10_1 : (vmM fs i (mx, fe_)).2 = (mxn_10, fen__10)) (h_10 : r_10 = ((vmM fs i (mx, fe_)).1)) : r_10 = ((mkM fs i (mx, fe_)).1) := by
  first
  | omega
  | (simp only [mkM]; grind)
theorem lf_X8_markOf_5 {mx : Nat} {fs : Nat → Int32} {fe_ : Nat → Int32} {i : Nat} {v_2 : Int32} {mxn_11 : Nat} {fen__11 : Nat → Int32} {mxn_12 : Nat} {fen__12 : Nat → Int32} {r_12 : Int32} {v_13 : Int32} (hmx : mx ≤ 16) (hi : i < 6) (e_2 : v_2 = fs (14 + i)) (c_3 : ¬ (v_2 = 2)) (c_4 : v_2 = 3) (hF_11_0 : mxn_11 ≤ 16) (hF_11_1 : lvX 22 (mx, fe_) = (mxn_11, fen__11)) (hF_12_0 : mxn_12 ≤ 16) (hF_12_1 : (vmM fs i (mxn_11, fen__11)).2 = (mxn_12, fen__12)) (h_12 : r_12 = ((vmM fs i (mxn_11, fen__11)).1)) (e_13 : v_13 = (r_12 - 1000)) : (mkM fs i (mx, fe_)).2 = (mxn_12, fen__12) := by
  first
  | omega
  | (simp only [mkM]; grind)
theorem lf_X8_markOf_6 {mx : Nat} {fs : Nat → Int32} {fe_ : Nat → Int32} {i : Nat} {v_2 : Int32} {mxn_11 : Nat} {fen__11 : Nat → Int32} {mxn_12 : Nat} {fen__12 : Nat → Int32} {r_12 : Int32} {v_13 : Int32} (hmx : mx ≤ 16) (hi : i < 6) (e_2 : v_2 = fs (14 + i)) (c_3 : ¬ (v_2 = 2)) (c_4 : v_2 = 3) (hF_11_0 : mxn_11 ≤ 16) (hF_11_1 : lvX 22 (mx, fe_) = (mxn_11, fen__11)) (hF_12_0 : mxn_12 ≤ 16) (hF_12_1 : (vmM fs i (mxn_11, fen__11)).2 = (mxn_12, fen__12)) (h_12 : r_12 = ((vmM fs i (mxn_11, fen__11)).1)) (e_13 : v_13 = (r_12 - 1000)) : v_13 = ((mkM fs i (mx, fe_)).1) := by
  first
  | omega
  | (simp only [mkM]; grind)
theorem lf_X8_markOf_7 {mx : Nat} {fs : Nat → Int32} {fe_ : Nat → Int32} {i : Nat} {v_2 : Int32} {mxn_14 : Nat} {fen__14 : Nat → Int32} {mxn_15 : Nat} {fen__15 : Nat → Int32} {r_15 : Int32} {v_16 : Int32} (hmx : mx ≤ 16) (hi : i < 6) (e_2 : v_2 = fs (14 + i)) (c_3 : v_2 = 2) (hF_14_0 : mxn_14 ≤ 16) (hF_14_1 : lvX 24 (mx, fe_) = (mxn_14, fen__14)) (hF_15_0 : mxn_15 ≤ 16) (hF_15_1 : (vmM fs i (mxn_14, fen__14)).2 = (mxn_15, fen__15)) (h_15 : r_15 = ((vmM fs i (mxn_14, fen__14)).1)) (e_16 : v_16 = (2 * r_15)) : (mkM fs i (mx, fe_)).2 = (mxn_15, fen__15) := by
  first
  | omega
  | (simp only [mkM]; grind)
theorem lf_X8_markOf_8 {mx : Nat} {fs : Nat → Int32} {fe_ : Nat → Int32} {i : Nat} {v_2 : Int32} {mxn_14 : Nat} {fen__14 : Nat → Int32} {mxn_15 : Nat} {fen__15 : Nat → Int32} {r_15 : Int32} {v_16 : Int32} (hmx : mx ≤ 16) (hi : i < 6) (e_2 : v_2 = fs (14 + i)) (c_3 : v_2 = 2) (hF_14_0 : mxn_14 ≤ 16) (hF_14_1 : lvX 24 (mx, fe_) = (mxn_14, fen__14)) (hF_15_0 : mxn_15 ≤ 16) (hF_15_1 : (vmM fs i (mxn_14, fen__14)).2 = (mxn_15, fen__15)) (h_15 : r_15 = ((vmM fs i (mxn_14, fen__14)).1)) (e_16 : v_16 = (2 * r_15)) : v_16 = ((mkM fs i (mx, fe_)).1) := by
  first
  | omega
  | (simp only [mkM]; grind)
set_option maxHeartbeats 4000000 in
set_option maxRecDepth 100000 in
theorem r_X8_markOf (l : Launch) (dC : Nat → ClassId) (dI : Nat → Nat → Nat) (cI cZ cL cJ : ClassId) (sz : Nat) (mo : Nat) (m_la : Nat) (m_sz : Nat) (m_it : Nat) (m_st : Nat) (m_mv : Nat) (m_tp : Nat) (m_rd : Nat) (m_ac : Nat) (m_as : Nat) (m_wo : Nat) (m_ik : Nat) (m_ke : Nat) (m_tr : Nat) (ms : Int32) (mt : Int32) (ml : Int32) (mk : Int32) (mv : Int32) (mb : Int32) (mw : Int32) (mz : Nat) (mp : Nat) (ma : Nat) (mx : Nat) (fs : Nat → Int32) (fe_ : Nat → Int32) (i : Nat) (hmx : mx ≤ 16) (hi : i < 6) : Met l yX8_markOf wsX8_markOf ({ frames := 4, cells := 0, slots := 0, locals := 85 }) (va_Pc [.ref mo, .int (nI i)] (fun U => U.heap.size = sz ∧ va_P (dC, dI) vwCl [(xo_8_rrriirrriiiiiiirrirrrrri mo m_la m_sz m_it ms mt m_st m_mv m_tp (nI mz) ml (nI mp) mk mv mb mw m_rd m_ac (nI ma) m_as m_wo m_ik m_ke m_tr (nI mx)), (xI m_st cI 38 fs), (xI m_tr cI 16 fe_)] U.heap ∧ va_K (dC, dI) vwCl [(cI, .int), (cZ, .boolean), (cL, .object RX3), (cJ, .array .int)] U ∧ va_D (fun _ => True) [(xo_8_rrriirrriiiiiiirrirrrrri mo m_la m_sz m_it ms mt m_st m_mv m_tp (nI mz) ml (nI mp) mk mv mb mw m_rd m_ac (nI ma) m_as m_wo m_ik m_ke m_tr (nI mx)), (xI m_st cI 38 fs), (xI m_tr cI 16 fe_)])) (va_Qi (fun r (_ : Unit) => r = ((mkM fs i (mx, fe_)).1)) (fun (_ : Unit) t => ∃ (mxn : Nat) (fen_ : Nat → Int32), va_P (dC, dI) vwCl [(xo_8_rrriirrriiiiiiirrirrrrri mo m_la m_sz m_it ms mt m_st m_mv m_tp (nI mz) ml (nI mp) mk mv mb mw m_rd m_ac (nI ma) m_as m_wo m_ik m_ke m_tr (nI mxn)), (xI m_st cI 38 fs), (xI m_tr cI 16 fen_)] t.heap ∧ va_D (va_A [(xo_8_rrriirrriiiiiiirrirrrrri mo m_la m_sz m_it ms mt m_st m_mv m_tp (nI mz) ml (nI mp) mk mv mb mw m_rd m_ac (nI ma) m_as m_wo m_ik m_ke m_tr (nI mx)), (xI m_st cI 38 fs), (xI m_tr cI 16 fe_)] sz) [(xo_8_rrriirrriiiiiiirrirrrrri mo m_la m_sz m_it ms mt m_st m_mv m_tp (nI mz) ml (nI mp) mk mv mb mw m_rd m_ac (nI ma) m_as m_wo m_ik m_ke m_tr (nI mxn)), (xI m_st cI 38 fs), (xI m_tr cI 16 fen_)] ∧ mxn ≤ 16 ∧ (mkM fs i (mx, fe_)).2 = (mxn, fen_)) (va_A [(xo_8_rrriirrriiiiiiirrirrrrri mo m_la m_sz m_it ms mt m_st m_mv m_tp (nI mz) ml (nI mp) mk mv mb mw m_rd m_ac (nI ma) m_as m_wo m_ik m_ke m_tr (nI mx)), (xI m_st cI 38 fs), (xI m_tr cI 16 fe_)] sz)) 0 0 (va_A [(xo_8_rrriirrriiiiiiirrirrrrri mo m_la m_sz m_it ms mt m_st m_mv m_tp (nI mz) ml (nI mp) mk mv mb mw m_rd m_ac (nI ma) m_as m_wo m_ik m_ke m_tr (nI mx)), (xI m_st cI 38 fs), (xI m_tr cI 16 fe_)] sz) := by
  refine Met.ofW (cc := cX8_markOf) (maxL := 4) (ret := (some .int)) (by decide) rfl ?_
  intro p e s m args below meth c s₁ B hml hv
  obtain ⟨rfl, hsz, hP, hK, hD0⟩ := hv
  have hx := B.exec
  have hb := B.bytes
  have hr := B.returns
  have hts := atoms_spec (ws := wsX8_markOf) B.pre
  have hown : s.vm.findClass RX8 = some m.cls := findClass_of_methodNamed B.named
  have hlocks := B.notSynchronized
  subst hsz
  have hD := hD0.self (sz := s.heap.size)
  generalize hAe : va_A [(xo_8_rrriirrriiiiiiirrirrrrri mo m_la m_sz m_it ms mt m_st m_mv m_tp (nI mz) ml (nI mp) mk mv mb mw m_rd m_ac (nI ma) m_as m_wo m_ik m_ke m_tr (nI mx)), (xI m_st cI 38 fs), (xI m_tr cI 16 fe_)] s.heap.size = A at hD ⊢
  have hA : ∀ q : Nat, s.heap.size ≤ q → A q := fun q h => by rw [← hAe]; exact Or.inr h
  have hS : va_S A s.heap s.heap [] := va_S.rf
  have hP : va_P (dC, dI) vwCl [(xo_8_rrriirrriiiiiiirrirrrrri mo m_la m_sz m_it ms mt m_st m_mv m_tp (nI mz) ml (nI mp) mk mv mb mw m_rd m_ac (nI ma) m_as m_wo m_ik m_ke m_tr (nI mx)), (xI m_st cI 38 fs), (xI m_tr cI 16 fe_)] s.heap := hP
  have hl := lv_entry ([.ref mo, .int (nI i)]) (n := 4) (Nat.le_of_ble_eq_true rfl)
  rw [lg_entry_eq]
  generalize (lg_sl ([.ref mo, .int (nI i)]) ++ List.replicate (4 - (lg_sl ([.ref mo, .int (nI i)])).length) Slot.unset).toArray = ls at hl ⊢
  have hl : lv_has ls 4 [(0, .ref mo), (1, .int (nI i))] := hl
  refine lv_aload_n hx hb dX8_markOf_0 rfl (lv_at hl 0 rfl) ?_
  refine va_get (D := (dC, dI)) (ci := 8) (v := .ref m_st) (C := RX8) (T := TX8) (N := 24) hx hb hts i_X8_markOf_X8 hown hK hP 0 rfl rfl 5 (by decide) (hts _ mx_X8_markOf_1) (fun _ h9 => h9) rfl dX8_markOf_1 ?_
  refine lv_bipush (v := 14) hx hb dX8_markOf_4 (by decide) ?_
  refine lv_iload_n hx hb dX8_markOf_6 rfl (lv_at hl 1 rfl) ?_
  refine lv_iadd hx hb dX8_markOf_7 ?_
  refine lv_topi (fun v_1 e_1 => ?_)
  obtain rfl : v_1 = (nI (14 + i)) := (e_1).trans (nI_add 14 i)
  refine va_iald hx hb hK hP 1 0 rfl rfl (vp_in_nI (by omega) (by omega)) dX8_markOf_8 ?_
  refine lv_topi (fun v_2 e_2 => ?_)
  have e_2 : v_2 = fs (14 + i) := e_2.trans (congrArg fs (nI_clamp (by omega)))
  refine lv_istore_n (lv' := [(2, .int v_2), (0, .ref mo), (1, .int (nI i))]) hx hb dX8_markOf_9 rfl hl (by decide) rfl (fun ls hl => ?_)
  refine lv_iload_n hx hb dX8_markOf_10 rfl (lv_at hl 0 rfl) ?_
  refine lv_iconst (v := 2) hx hb dX8_markOf_11 (by decide) ?_
  refine lv_icmp_ne (tgt := 29) hx hb dX8_markOf_12 (by decide) (fun c_3 => ?_) (fun c_3 => ?_)
  · skip
    refine lv_iload_n hx hb dX8_markOf_29 rfl (lv_at hl 0 rfl) ?_
    refine lv_iconst (v := 3) hx hb dX8_markOf_30 (by decide) ?_
    refine lv_icmp_ne (tgt := 50) hx hb dX8_markOf_31 (by decide) (fun c_4 => ?_) (fun c_4 => ?_)
    · skip
      refine lv_iload_n hx hb dX8_markOf_50 rfl (lv_at hl 0 rfl) ?_
      refine lv_iconst (v := 1) hx hb dX8_markOf_51 (by decide) ?_
      refine lv_icmp_ne (tgt := 61) hx hb dX8_markOf_52 (by decide) (fun c_5 => ?_) (fun c_5 => ?_)
      · skip
        refine lv_aload_n hx hb dX8_markOf_61 rfl (lv_at hl 1 rfl) ?_
        refine lv_bipush (v := 23) hx hb dX8_markOf_62 (by decide) ?_
        have hc_6 := cutW (wc := [(xo_8_rrriirrriiiiiiirrirrrrri mo m_la m_sz m_it ms mt m_st m_mv m_tp (nI mz) ml (nI mp) mk mv mb mw m_rd m_ac (nI ma) m_as m_wo m_ik m_ke m_tr (nI mx)), (xI m_tr cI 16 fe_)]) hP hD hS hA [0, 2] (by decide +kernel) rfl
        refine va_callv (va_runV (As := [.int 23]) (rest := []) ⟨hx, hb, hml, hown, hts⟩ (r_X8_begin l dC dI cI cZ cL cJ s.heap.size mo m_la m_sz m_it m_st m_mv m_tp m_rd m_ac m_as m_wo m_ik m_ke m_tr ms mt ml mk mv mb mw mz mp ma mx fe_ 23 (by omega)) (cwV 1 hts gX8_markOf_X8_begin rfl rfl rfl (by decide +kernel) ⟨Nat.le_of_ble_eq_true rfl, Nat.le_of_ble_eq_true rfl⟩) (pvW 8 0 hK hP rfl rfl hc_6) rfl rfl hl.1 rfl (lv_room (Nat.le_of_ble_eq_true rfl)) dX8_markOf_64 ⟨Nat.le_of_ble_eq_true rfl, Nat.le_of_ble_eq_true rfl⟩) hS (fun q _ h => hc_6.2.2 q h) hc_6.2.2 (fun u_6 t_6 H1 locs ht hvm h_6 hB hz1 hk1 hS => ?_)
        refine xl_2_4 hB (fun mxn_6 fen__6 hP1 hD1 hF_6_0 hF_6_1 => ?_)
        clear hB
        rw [ht] at hP1
        obtain ⟨hP, hD⟩ := va_join (wr := [(xI m_st cI 38 fs)]) (w1 := [(xo_8_rrriirrriiiiiiirrirrrrri mo m_la m_sz m_it ms mt m_st m_mv m_tp (nI mz) ml (nI mp) mk mv mb mw m_rd m_ac (nI ma) m_as m_wo m_ik m_ke m_tr (nI mxn_6)), (xI m_tr cI 16 fen__6)]) hP hD [0, 2] [1] rfl rfl (by decide +kernel) (by decide +kernel) hk1 hc_6.2.2 hP1 hD1
        generalize H1 = H at hP hS ⊢
        have hP : va_P (dC, dI) vwCl [(xI m_st cI 38 fs), (xo_8_rrriirrriiiiiiirrirrrrri mo m_la m_sz m_it ms mt m_st m_mv m_tp (nI mz) ml (nI mp) mk mv mb mw m_rd m_ac (nI ma) m_as m_wo m_ik m_ke m_tr (nI mxn_6)), (xI m_tr cI 16 fen__6)] H := hP
        have hD := dto hP hD
        refine lv_aload_n hx hb dX8_markOf_67 rfl (lv_at hl 1 rfl) ?_
        refine lv_iload_n hx hb dX8_markOf_68 rfl (lv_at hl 2 rfl) ?_
        refine lv_bipush (v := 20) hx hb dX8_markOf_69 (by decide) ?_
        have hc_7 := cutW (wc := [(xo_8_rrriirrriiiiiiirrirrrrri mo m_la m_sz m_it ms mt m_st m_mv m_tp (nI mz) ml (nI mp) mk mv mb mw m_rd m_ac (nI ma) m_as m_wo m_ik m_ke m_tr (nI mxn_6)), (xI m_st cI 38 fs), (xI m_tr cI 16 fen__6)]) hP hD hS hA [1, 0, 2] (by decide +kernel) rfl
        refine va_calli (va_runV (As := [.int (nI i), .int 20]) (rest := []) ⟨hx, hb, hml, hown, hts⟩ (r_X8_lent l dC dI cI cZ cL cJ H.size mo m_la m_sz m_it m_st m_mv m_tp m_rd m_ac m_as m_wo m_ik m_ke m_tr ms mt ml mk mv mb mw mz mp ma mxn_6 fs fen__6 i 20 (by omega) (by omega)) (cwV 2 hts gX8_markOf_X8_lent rfl rfl rfl (by decide +kernel) ⟨Nat.le_of_ble_eq_true rfl, Nat.le_of_ble_eq_true rfl⟩) (pvW 8 1 hK hP rfl rfl hc_7) rfl rfl hl.1 rfl (lv_room (Nat.le_of_ble_eq_true rfl)) dX8_markOf_71 ⟨Nat.le_of_ble_eq_true rfl, Nat.le_of_ble_eq_true rfl⟩) hS (fun q _ h => hc_7.2.2 q h) hc_7.2.2 (fun r_7 u_7 t_7 H1 locs ht hvm h_7 hB hz1 hk1 hS => ?_)
        refine xl_2_4 hB (fun mxn_7 fen__7 hP1 hD1 hF_7_0 hF_7_1 => ?_)
        clear hB
        rw [ht] at hP1
        obtain ⟨hP, hD⟩ := va_join (wr := []) (w1 := [(xo_8_rrriirrriiiiiiirrirrrrri mo m_la m_sz m_it ms mt m_st m_mv m_tp (nI mz) ml (nI mp) mk mv mb mw m_rd m_ac (nI ma) m_as m_wo m_ik m_ke m_tr (nI mxn_7)), (xI m_st cI 38 fs), (xI m_tr cI 16 fen__7)]) hP hD [1, 0, 2] [] rfl rfl (by decide +kernel) (by decide +kernel) hk1 hc_7.2.2 hP1 hD1
        generalize H1 = H at hP hS ⊢
        have hP : va_P (dC, dI) vwCl [(xo_8_rrriirrriiiiiiirrirrrrri mo m_la m_sz m_it ms mt m_st m_mv m_tp (nI mz) ml (nI mp) mk mv mb mw m_rd m_ac (nI ma) m_as m_wo m_ik m_ke m_tr (nI mxn_7)), (xI m_st cI 38 fs), (xI m_tr cI 16 fen__7)] H := hP
        have hD := dto hP hD
        refine lv_istore_n (lv' := [(3, .int r_7), (2, .int v_2), (0, .ref mo), (1, .int (nI i))]) hx hb dX8_markOf_74 rfl hl (by decide) rfl (fun ls hl => ?_)
        refine lv_iload_n hx hb dX8_markOf_75 rfl (lv_at hl 0 rfl) ?_
        refine lv_aload_n hx hb dX8_markOf_76 rfl (lv_at hl 2 rfl) ?_
        refine lv_iload_n hx hb dX8_markOf_77 rfl (lv_at hl 3 rfl) ?_
        have hc_8 := cutW (wc := [(xo_8_rrriirrriiiiiiirrirrrrri mo m_la m_sz m_it ms mt m_st m_mv m_tp (nI mz) ml (nI mp) mk mv mb mw m_rd m_ac (nI ma) m_as m_wo m_ik m_ke m_tr (nI mxn_7)), (xI m_st cI 38 fs), (xI m_tr cI 16 fen__7)]) hP hD hS hA [0, 1, 2] (by decide +kernel) rfl
        refine va_calli (va_runV (As := [.int (nI i)]) (rest := [.int r_7]) ⟨hx, hb, hml, hown, hts⟩ (r_X8_sizeOfDutch l dC dI cI cZ cL cJ H.size mo m_la m_sz m_it m_st m_mv m_tp m_rd m_ac m_as m_wo m_ik m_ke m_tr ms mt ml mk mv mb mw mz mp ma mxn_7 fs fen__7 i (by omega) (by omega)) (cwV 1 hts gX8_markOf_X8_sizeOfDutch rfl rfl rfl (by decide +kernel) ⟨Nat.le_of_ble_eq_true rfl, Nat.le_of_ble_eq_true rfl⟩) (pvW 8 0 hK hP rfl rfl hc_8) rfl rfl hl.1 rfl (lv_room (Nat.le_of_ble_eq_true rfl)) dX8_markOf_78 ⟨Nat.le_of_ble_eq_true rfl, Nat.le_of_ble_eq_true rfl⟩) hS (fun q _ h => hc_8.2.2 q h) hc_8.2.2 (fun r_8 u_8 t_8 H1 locs ht hvm h_8 hB hz1 hk1 hS => ?_)
        refine xl_2_4 hB (fun mxn_8 fen__8 hP1 hD1 hF_8_0 hF_8_1 => ?_)
        clear hB
        rw [ht] at hP1
        obtain ⟨hP, hD⟩ := va_join (wr := []) (w1 := [(xo_8_rrriirrriiiiiiirrirrrrri mo m_la m_sz m_it ms mt m_st m_mv m_tp (nI mz) ml (nI mp) mk mv mb mw m_rd m_ac (nI ma) m_as m_wo m_ik m_ke m_tr (nI mxn_8)), (xI m_st cI 38 fs), (xI m_tr cI 16 fen__8)]) hP hD [0, 1, 2] [] rfl rfl (by decide +kernel) (by decide +kernel) hk1 hc_8.2.2 hP1 hD1
        generalize H1 = H at hP hS ⊢
        have hP : va_P (dC, dI) vwCl [(xo_8_rrriirrriiiiiiirrirrrrri mo m_la m_sz m_it ms mt m_st m_mv m_tp (nI mz) ml (nI mp) mk mv mb mw m_rd m_ac (nI ma) m_as m_wo m_ik m_ke m_tr (nI mxn_8)), (xI m_st cI 38 fs), (xI m_tr cI 16 fen__8)] H := hP
        have hD := dto hP hD
        refine lv_isub hx hb dX8_markOf_81 ?_
        refine lv_topi (fun v_9 e_9 => ?_)
        have hX9 := cut2 (wc := [(xo_8_rrriirrriiiiiiirrirrrrri mo m_la m_sz m_it ms mt m_st m_mv m_tp (nI mz) ml (nI mp) mk mv mb mw m_rd m_ac (nI ma) m_as m_wo m_ik m_ke m_tr (nI mxn_8)), (xI m_st cI 38 fs), (xI m_tr cI 16 fen__8)]) hP hD [0, 1, 2] (by decide +kernel) rfl
        exact W.iret (v := v_9) hx hb hr (fun t ht hW => ⟨⟨v_9, (), rfl, (lf_X8_markOf_2 hmx hi e_2 c_3 c_4 c_5 hF_6_0 hF_6_1 hF_7_0 hF_7_1 h_7 hF_8_0 hF_8_1 h_8 e_9), ⟨mxn_8, fen__8, va_Ht ht hX9.1, hX9.2, (by omega), (lf_X8_markOf_1 hmx hi e_2 c_3 c_4 c_5 hF_6_0 hF_6_1 hF_7_0 hF_7_1 h_7 hF_8_0 hF_8_1 h_8 e_9)⟩⟩, hS.F ht⟩) hS.2.2 dX8_markOf_82
      · skip
        refine lv_aload_n hx hb dX8_markOf_55 rfl (lv_at hl 1 rfl) ?_
        refine lv_iload_n hx hb dX8_markOf_56 rfl (lv_at hl 2 rfl) ?_
        have hc_10 := cutW (wc := [(xo_8_rrriirrriiiiiiirrirrrrri mo m_la m_sz m_it ms mt m_st m_mv m_tp (nI mz) ml (nI mp) mk mv mb mw m_rd m_ac (nI ma) m_as m_wo m_ik m_ke m_tr (nI mx)), (xI m_st cI 38 fs), (xI m_tr cI 16 fe_)]) hP hD hS hA [0, 1, 2] (by decide +kernel) rfl
        refine va_calli (va_runV (As := [.int (nI i)]) (rest := []) ⟨hx, hb, hml, hown, hts⟩ (r_X8_voiceMark l dC dI cI cZ cL cJ s.heap.size mo m_la m_sz m_it m_st m_mv m_tp m_rd m_ac m_as m_wo m_ik m_ke m_tr ms mt ml mk mv mb mw mz mp ma mx fs fe_ i (by omega) (by omega)) (cwV 1 hts gX8_markOf_X8_voiceMark rfl rfl rfl (by decide +kernel) ⟨Nat.le_of_ble_eq_true rfl, Nat.le_of_ble_eq_true rfl⟩) (pvW 8 0 hK hP rfl rfl hc_10) rfl rfl hl.1 rfl (lv_room (Nat.le_of_ble_eq_true rfl)) dX8_markOf_57 ⟨Nat.le_of_ble_eq_true rfl, Nat.le_of_ble_eq_true rfl⟩) hS (fun q _ h => hc_10.2.2 q h) hc_10.2.2 (fun r_10 u_10 t_10 H1 locs ht hvm h_10 hB hz1 hk1 hS => ?_)
        refine xl_2_4 hB (fun mxn_10 fen__10 hP1 hD1 hF_10_0 hF_10_1 => ?_)
        clear hB
        rw [ht] at hP1
        obtain ⟨hP, hD⟩ := va_join (wr := []) (w1 := [(xo_8_rrriirrriiiiiiirrirrrrri mo m_la m_sz m_it ms mt m_st m_mv m_tp (nI mz) ml (nI mp) mk mv mb mw m_rd m_ac (nI ma) m_as m_wo m_ik m_ke m_tr (nI mxn_10)), (xI m_st cI 38 fs), (xI m_tr cI 16 fen__10)]) hP hD [0, 1, 2] [] rfl rfl (by decide +kernel) (by decide +kernel) hk1 hc_10.2.2 hP1 hD1
        generalize H1 = H at hP hS ⊢
        have hP : va_P (dC, dI) vwCl [(xo_8_rrriirrriiiiiiirrirrrrri mo m_la m_sz m_it ms mt m_st m_mv m_tp (nI mz) ml (nI mp) mk mv mb mw m_rd m_ac (nI ma) m_as m_wo m_ik m_ke m_tr (nI mxn_10)), (xI m_st cI 38 fs), (xI m_tr cI 16 fen__10)] H := hP
        have hD := dto hP hD
        have hX9 := cut2 (wc := [(xo_8_rrriirrriiiiiiirrirrrrri mo m_la m_sz m_it ms mt m_st m_mv m_tp (nI mz) ml (nI mp) mk mv mb mw m_rd m_ac (nI ma) m_as m_wo m_ik m_ke m_tr (nI mxn_10)), (xI m_st cI 38 fs), (xI m_tr cI 16 fen__10)]) hP hD [0, 1, 2] (by decide +kernel) rfl
        exact W.iret (v := r_10) hx hb hr (fun t ht hW => ⟨⟨r_10, (), rfl, (lf_X8_markOf_4 hmx hi e_2 c_3 c_4 c_5 hF_10_0 hF_10_1 h_10), ⟨mxn_10, fen__10, va_Ht ht hX9.1, hX9.2, (by omega), (lf_X8_markOf_3 hmx hi e_2 c_3 c_4 c_5 hF_10_0 hF_10_1 h_10)⟩⟩, hS.F ht⟩) hS.2.2 dX8_markOf_60
    · skip
      refine lv_aload_n hx hb dX8_markOf_34 rfl (lv_at hl 1 rfl) ?_
      refine lv_bipush (v := 22) hx hb dX8_markOf_35 (by decide) ?_
      have hc_11 := cutW (wc := [(xo_8_rrriirrriiiiiiirrirrrrri mo m_la m_sz m_it ms mt m_st m_mv m_tp (nI mz) ml (nI mp) mk mv mb mw m_rd m_ac (nI ma) m_as m_wo m_ik m_ke m_tr (nI mx)), (xI m_tr cI 16 fe_)]) hP hD hS hA [0, 2] (by decide +kernel) rfl
      refine va_callv (va_runV (As := [.int 22]) (rest := []) ⟨hx, hb, hml, hown, hts⟩ (r_X8_begin l dC dI cI cZ cL cJ s.heap.size mo m_la m_sz m_it m_st m_mv m_tp m_rd m_ac m_as m_wo m_ik m_ke m_tr ms mt ml mk mv mb mw mz mp ma mx fe_ 22 (by omega)) (cwV 1 hts gX8_markOf_X8_begin rfl rfl rfl (by decide +kernel) ⟨Nat.le_of_ble_eq_true rfl, Nat.le_of_ble_eq_true rfl⟩) (pvW 8 0 hK hP rfl rfl hc_11) rfl rfl hl.1 rfl (lv_room (Nat.le_of_ble_eq_true rfl)) dX8_markOf_37 ⟨Nat.le_of_ble_eq_true rfl, Nat.le_of_ble_eq_true rfl⟩) hS (fun q _ h => hc_11.2.2 q h) hc_11.2.2 (fun u_11 t_11 H1 locs ht hvm h_11 hB hz1 hk1 hS => ?_)
      refine xl_2_4 hB (fun mxn_11 fen__11 hP1 hD1 hF_11_0 hF_11_1 => ?_)
      clear hB
      rw [ht] at hP1
      obtain ⟨hP, hD⟩ := va_join (wr := [(xI m_st cI 38 fs)]) (w1 := [(xo_8_rrriirrriiiiiiirrirrrrri mo m_la m_sz m_it ms mt m_st m_mv m_tp (nI mz) ml (nI mp) mk mv mb mw m_rd m_ac (nI ma) m_as m_wo m_ik m_ke m_tr (nI mxn_11)), (xI m_tr cI 16 fen__11)]) hP hD [0, 2] [1] rfl rfl (by decide +kernel) (by decide +kernel) hk1 hc_11.2.2 hP1 hD1
      generalize H1 = H at hP hS ⊢
      have hP : va_P (dC, dI) vwCl [(xI m_st cI 38 fs), (xo_8_rrriirrriiiiiiirrirrrrri mo m_la m_sz m_it ms mt m_st m_mv m_tp (nI mz) ml (nI mp) mk mv mb mw m_rd m_ac (nI ma) m_as m_wo m_ik m_ke m_tr (nI mxn_11)), (xI m_tr cI 16 fen__11)] H := hP
      have hD := dto hP hD
      refine lv_aload_n hx hb dX8_markOf_40 rfl (lv_at hl 1 rfl) ?_
      refine lv_iload_n hx hb dX8_markOf_41 rfl (lv_at hl 2 rfl) ?_
      have hc_12 := cutW (wc := [(xo_8_rrriirrriiiiiiirrirrrrri mo m_la m_sz m_it ms mt m_st m_mv m_tp (nI mz) ml (nI mp) mk mv mb mw m_rd m_ac (nI ma) m_as m_wo m_ik m_ke m_tr (nI mxn_11)), (xI m_st cI 38 fs), (xI m_tr cI 16 fen__11)]) hP hD hS hA [1, 0, 2] (by decide +kernel) rfl
      refine va_calli (va_runV (As := [.int (nI i)]) (rest := []) ⟨hx, hb, hml, hown, hts⟩ (r_X8_voiceMark l dC dI cI cZ cL cJ H.size mo m_la m_sz m_it m_st m_mv m_tp m_rd m_ac m_as m_wo m_ik m_ke m_tr ms mt ml mk mv mb mw mz mp ma mxn_11 fs fen__11 i (by omega) (by omega)) (cwV 1 hts gX8_markOf_X8_voiceMark rfl rfl rfl (by decide +kernel) ⟨Nat.le_of_ble_eq_true rfl, Nat.le_of_ble_eq_true rfl⟩) (pvW 8 1 hK hP rfl rfl hc_12) rfl rfl hl.1 rfl (lv_room (Nat.le_of_ble_eq_true rfl)) dX8_markOf_42 ⟨Nat.le_of_ble_eq_true rfl, Nat.le_of_ble_eq_true rfl⟩) hS (fun q _ h => hc_12.2.2 q h) hc_12.2.2 (fun r_12 u_12 t_12 H1 locs ht hvm h_12 hB hz1 hk1 hS => ?_)
      refine xl_2_4 hB (fun mxn_12 fen__12 hP1 hD1 hF_12_0 hF_12_1 => ?_)
      clear hB
      rw [ht] at hP1
      obtain ⟨hP, hD⟩ := va_join (wr := []) (w1 := [(xo_8_rrriirrriiiiiiirrirrrrri mo m_la m_sz m_it ms mt m_st m_mv m_tp (nI mz) ml (nI mp) mk mv mb mw m_rd m_ac (nI ma) m_as m_wo m_ik m_ke m_tr (nI mxn_12)), (xI m_st cI 38 fs), (xI m_tr cI 16 fen__12)]) hP hD [1, 0, 2] [] rfl rfl (by decide +kernel) (by decide +kernel) hk1 hc_12.2.2 hP1 hD1
      generalize H1 = H at hP hS ⊢
      have hP : va_P (dC, dI) vwCl [(xo_8_rrriirrriiiiiiirrirrrrri mo m_la m_sz m_it ms mt m_st m_mv m_tp (nI mz) ml (nI mp) mk mv mb mw m_rd m_ac (nI ma) m_as m_wo m_ik m_ke m_tr (nI mxn_12)), (xI m_st cI 38 fs), (xI m_tr cI 16 fen__12)] H := hP
      have hD := dto hP hD
      refine lv_sipush (v := 1000) hx hb dX8_markOf_45 (by decide) ?_
      refine lv_isub hx hb dX8_markOf_48 ?_
      refine lv_topi (fun v_13 e_13 => ?_)
      have hX9 := cut2 (wc := [(xo_8_rrriirrriiiiiiirrirrrrri mo m_la m_sz m_it ms mt m_st m_mv m_tp (nI mz) ml (nI mp) mk mv mb mw m_rd m_ac (nI ma) m_as m_wo m_ik m_ke m_tr (nI mxn_12)), (xI m_st cI 38 fs), (xI m_tr cI 16 fen__12)]) hP hD [0, 1, 2] (by decide +kernel) rfl
      exact W.iret (v := v_13) hx hb hr (fun t ht hW => ⟨⟨v_13, (), rfl, (lf_X8_markOf_6 hmx hi e_2 c_3 c_4 hF_11_0 hF_11_1 hF_12_0 hF_12_1 h_12 e_13), ⟨mxn_12, fen__12, va_Ht ht hX9.1, hX9.2, (by omega), (lf_X8_markOf_5 hmx hi e_2 c_3 c_4 hF_11_0 hF_11_1 hF_12_0 hF_12_1 h_12 e_13)⟩⟩, hS.F ht⟩) hS.2.2 dX8_markOf_49
  · skip
    refine lv_aload_n hx hb dX8_markOf_15 rfl (lv_at hl 1 rfl) ?_
    refine lv_bipush (v := 24) hx hb dX8_markOf_16 (by decide) ?_
    have hc_14 := cutW (wc := [(xo_8_rrriirrriiiiiiirrirrrrri mo m_la m_sz m_it ms mt m_st m_mv m_tp (nI mz) ml (nI mp) mk mv mb mw m_rd m_ac (nI ma) m_as m_wo m_ik m_ke m_tr (nI mx)), (xI m_tr cI 16 fe_)]) hP hD hS hA [0, 2] (by decide +kernel) rfl
    refine va_callv (va_runV (As := [.int 24]) (rest := []) ⟨hx, hb, hml, hown, hts⟩ (r_X8_begin l dC dI cI cZ cL cJ s.heap.size mo m_la m_sz m_it m_st m_mv m_tp m_rd m_ac m_as m_wo m_ik m_ke m_tr ms mt ml mk mv mb mw mz mp ma mx fe_ 24 (by omega)) (cwV 1 hts gX8_markOf_X8_begin rfl rfl rfl (by decide +kernel) ⟨Nat.le_of_ble_eq_true rfl, Nat.le_of_ble_eq_true rfl⟩) (pvW 8 0 hK hP rfl rfl hc_14) rfl rfl hl.1 rfl (lv_room (Nat.le_of_ble_eq_true rfl)) dX8_markOf_18 ⟨Nat.le_of_ble_eq_true rfl, Nat.le_of_ble_eq_true rfl⟩) hS (fun q _ h => hc_14.2.2 q h) hc_14.2.2 (fun u_14 t_14 H1 locs ht hvm h_14 hB hz1 hk1 hS => ?_)
    refine xl_2_4 hB (fun mxn_14 fen__14 hP1 hD1 hF_14_0 hF_14_1 => ?_)
    clear hB
    rw [ht] at hP1
    obtain ⟨hP, hD⟩ := va_join (wr := [(xI m_st cI 38 fs)]) (w1 := [(xo_8_rrriirrriiiiiiirrirrrrri mo m_la m_sz m_it ms mt m_st m_mv m_tp (nI mz) ml (nI mp) mk mv mb mw m_rd m_ac (nI ma) m_as m_wo m_ik m_ke m_tr (nI mxn_14)), (xI m_tr cI 16 fen__14)]) hP hD [0, 2] [1] rfl rfl (by decide +kernel) (by decide +kernel) hk1 hc_14.2.2 hP1 hD1
    generalize H1 = H at hP hS ⊢
    have hP : va_P (dC, dI) vwCl [(xI m_st cI 38 fs), (xo_8_rrriirrriiiiiiirrirrrrri mo m_la m_sz m_it ms mt m_st m_mv m_tp (nI mz) ml (nI mp) mk mv mb mw m_rd m_ac (nI ma) m_as m_wo m_ik m_ke m_tr (nI mxn_14)), (xI m_tr cI 16 fen__14)] H := hP
    have hD := dto hP hD
    refine lv_iconst (v := 2) hx hb dX8_markOf_21 (by decide) ?_
    refine lv_aload_n hx hb dX8_markOf_22 rfl (lv_at hl 1 rfl) ?_
    refine lv_iload_n hx hb dX8_markOf_23 rfl (lv_at hl 2 rfl) ?_
    have hc_15 := cutW (wc := [(xo_8_rrriirrriiiiiiirrirrrrri mo m_la m_sz m_it ms mt m_st m_mv m_tp (nI mz) ml (nI mp) mk mv mb mw m_rd m_ac (nI ma) m_as m_wo m_ik m_ke m_tr (nI mxn_14)), (xI m_st cI 38 fs), (xI m_tr cI 16 fen__14)]) hP hD hS hA [1, 0, 2] (by decide +kernel) rfl
    refine va_calli (va_runV (As := [.int (nI i)]) (rest := [.int 2]) ⟨hx, hb, hml, hown, hts⟩ (r_X8_voiceMark l dC dI cI cZ cL cJ H.size mo m_la m_sz m_it m_st m_mv m_tp m_rd m_ac m_as m_wo m_ik m_ke m_tr ms mt ml mk mv mb mw mz mp ma mxn_14 fs fen__14 i (by omega) (by omega)) (cwV 1 hts gX8_markOf_X8_voiceMark rfl rfl rfl (by decide +kernel) ⟨Nat.le_of_ble_eq_true rfl, Nat.le_of_ble_eq_true rfl⟩) (pvW 8 1 hK hP rfl rfl hc_15) rfl rfl hl.1 rfl (lv_room (Nat.le_of_ble_eq_true rfl)) dX8_markOf_24 ⟨Nat.le_of_ble_eq_true rfl, Nat.le_of_ble_eq_true rfl⟩) hS (fun q _ h => hc_15.2.2 q h) hc_15.2.2 (fun r_15 u_15 t_15 H1 locs ht hvm h_15 hB hz1 hk1 hS => ?_)
    refine xl_2_4 hB (fun mxn_15 fen__15 hP1 hD1 hF_15_0 hF_15_1 => ?_)
    clear hB
    rw [ht] at hP1
    obtain ⟨hP, hD⟩ := va_join (wr := []) (w1 := [(xo_8_rrriirrriiiiiiirrirrrrri mo m_la m_sz m_it ms mt m_st m_mv m_tp (nI mz) ml (nI mp) mk mv mb mw m_rd m_ac (nI ma) m_as m_wo m_ik m_ke m_tr (nI mxn_15)), (xI m_st cI 38 fs), (xI m_tr cI 16 fen__15)]) hP hD [1, 0, 2] [] rfl rfl (by decide +kernel) (by decide +kernel) hk1 hc_15.2.2 hP1 hD1
    generalize H1 = H at hP hS ⊢
    have hP : va_P (dC, dI) vwCl [(xo_8_rrriirrriiiiiiirrirrrrri mo m_la m_sz m_it ms mt m_st m_mv m_tp (nI mz) ml (nI mp) mk mv mb mw m_rd m_ac (nI ma) m_as m_wo m_ik m_ke m_tr (nI mxn_15)), (xI m_st cI 38 fs), (xI m_tr cI 16 fen__15)] H := hP
    have hD := dto hP hD
    refine lv_imul hx hb dX8_markOf_27 ?_
    refine lv_topi (fun v_16 e_16 => ?_)
    have hX9 := cut2 (wc := [(xo_8_rrriirrriiiiiiirrirrrrri mo m_la m_sz m_it ms mt m_st m_mv m_tp (nI mz) ml (nI mp) mk mv mb mw m_rd m_ac (nI ma) m_as m_wo m_ik m_ke m_tr (nI mxn_15)), (xI m_st cI 38 fs), (xI m_tr cI 16 fen__15)]) hP hD [0, 1, 2] (by decide +kernel) rfl
    exact W.iret (v := v_16) hx hb hr (fun t ht hW => ⟨⟨v_16, (), rfl, (lf_X8_markOf_8 hmx hi e_2 c_3 hF_14_0 hF_14_1 hF_15_0 hF_15_1 h_15 e_16), ⟨mxn_15, fen__15, va_Ht ht hX9.1, hX9.2, (by omega), (lf_X8_markOf_7 hmx hi e_2 c_3 hF_14_0 hF_14_1 hF_15_0 hF_15_1 h_15 e_16)⟩⟩, hS.F ht⟩) hS.2.2 dX8_markOf_28
theorem lf_X8_voiceSize_1 {mx : Nat} {fs : Nat → Int32} {fe_ : Nat → Int32} {i : Nat} {mxn_1 : Nat} {fen__1 : Nat → Int32} {mxn_2 : Nat} {fen__2 : Nat → Int32} {r_2 : Int32} {mxn_3 : Nat} {fen__3 : Nat → Int32} {r_3 : Int32} {v_4 : Int32} (hmx : mx ≤ 16) (hi : i < 6) (hF_1_0 : mxn_1 ≤ 16) (hF_1_1 : lvX 11 (mx, fe_) = (mxn_1, fen__1)) (hF_2_0 : mxn_2 ≤ 16) (hF_2_1 : (lentM fs i 10 (mxn_1, fen__1)).2 = (mxn_2, fen__2)) (h_2 : r_2 = ((lentM fs i 10 (mxn_1, fen__1)).1)) (hF_3_0 : mxn_3 ≤ 16) (hF_3_1 : (mkM fs i (mxn_2, fen__2)).2 = (mxn_3, fen__3)) (h_3 : r_3 = ((mkM fs i (mxn_2, fen__2)).1)) (e_4 : v_4 = (r_2 + r_3)) : (vsM fs i (mx, fe_)).2 = (mxn_3, fen__3) := by
  first
  | omega
  | (simp only [vsM]; grind)
theorem lf_X8_voiceSize_2 {mx : Nat} {fs : Nat → Int32} {fe_ : Nat → Int32} {i : Nat} {mxn_1 : Nat} {fen__1 : Nat → Int32} {mxn_2 : Nat} {fen__2 : Nat → Int32} {r_2 : Int32} {mxn_3 : Nat} {fen__3 : Nat → Int32} {r_3 : Int32} {v_4 : Int32} (hmx : mx ≤ 16) (hi : i < 6) (hF_1_0 : mxn_1 ≤ 16) (hF_1_1 : lvX 11 (mx, fe_) = (mxn_1, fen__1)) (hF_2_0 : mxn_2 ≤ 16) (hF_2_1 : (lentM fs i 10 (mxn_1, fen__1)).2 = (mxn_2, fen__2)) (h_2 : r_2 = ((lentM fs i 10 (mxn_1, fen__1)).1)) (hF_3_0 : mxn_3 ≤ 16) (hF_3_1 : (mkM fs i (mxn_2, fen__2)).2 = (mxn_3, fen__3)) (h_3 : r_3 = ((mkM fs i (mxn_2, fen__2)).1)) (e_4 : v_4 = (r_2 + r_3)) : v_4 = ((vsM fs i (mx, fe_)).1) := by
  first
  | omega
  | (simp only [vsM]; grind)
set_option maxHeartbeats 4000000 in
set_option maxRecDepth 100000 in
theorem r_X8_voiceSize (l : Launch) (dC : Nat → ClassId) (dI : Nat → Nat → Nat) (cI cZ cL cJ : ClassId) (sz : Nat) (mo : Nat) (m_la : Nat) (m_sz : Nat) (m_it : Nat) (m_st : Nat) (m_mv : Nat) (m_tp : Nat) (m_rd : Nat) (m_ac : Nat) (m_as : Nat) (m_wo : Nat) (m_ik : Nat) (m_ke : Nat) (m_tr : Nat) (ms : Int32) (mt : Int32) (ml : Int32) (mk : Int32) (mv : Int32) (mb : Int32) (mw : Int32) (mz : Nat) (mp : Nat) (ma : Nat) (mx : Nat) (fs : Nat → Int32) (fe_ : Nat → Int32) (i : Nat) (hmx : mx ≤ 16) (hi : i < 6) : Met l yX8_voiceSize wsX8_voiceSize ({ frames := 5, cells := 0, slots := 0, locals := 108 }) (va_Pc [.ref mo, .int (nI i)] (fun U => U.heap.size = sz ∧ va_P (dC, dI) vwCl [(xo_8_rrriirrriiiiiiirrirrrrri mo m_la m_sz m_it ms mt m_st m_mv m_tp (nI mz) ml (nI mp) mk mv mb mw m_rd m_ac (nI ma) m_as m_wo m_ik m_ke m_tr (nI mx)), (xI m_st cI 38 fs), (xI m_tr cI 16 fe_)] U.heap ∧ va_K (dC, dI) vwCl [(cI, .int), (cZ, .boolean), (cL, .object RX3), (cJ, .array .int)] U ∧ va_D (fun _ => True) [(xo_8_rrriirrriiiiiiirrirrrrri mo m_la m_sz m_it ms mt m_st m_mv m_tp (nI mz) ml (nI mp) mk mv mb mw m_rd m_ac (nI ma) m_as m_wo m_ik m_ke m_tr (nI mx)), (xI m_st cI 38 fs), (xI m_tr cI 16 fe_)])) (va_Qi (fun r (_ : Unit) => r = ((vsM fs i (mx, fe_)).1)) (fun (_ : Unit) t => ∃ (mxn : Nat) (fen_ : Nat → Int32), va_P (dC, dI) vwCl [(xo_8_rrriirrriiiiiiirrirrrrri mo m_la m_sz m_it ms mt m_st m_mv m_tp (nI mz) ml (nI mp) mk mv mb mw m_rd m_ac (nI ma) m_as m_wo m_ik m_ke m_tr (nI mxn)), (xI m_st cI 38 fs), (xI m_tr cI 16 fen_)] t.heap ∧ va_D (va_A [(xo_8_rrriirrriiiiiiirrirrrrri mo m_la m_sz m_it ms mt m_st m_mv m_tp (nI mz) ml (nI mp) mk mv mb mw m_rd m_ac (nI ma) m_as m_wo m_ik m_ke m_tr (nI mx)), (xI m_st cI 38 fs), (xI m_tr cI 16 fe_)] sz) [(xo_8_rrriirrriiiiiiirrirrrrri mo m_la m_sz m_it ms mt m_st m_mv m_tp (nI mz) ml (nI mp) mk mv mb mw m_rd m_ac (nI ma) m_as m_wo m_ik m_ke m_tr (nI mxn)), (xI m_st cI 38 fs), (xI m_tr cI 16 fen_)] ∧ mxn ≤ 16 ∧ (vsM fs i (mx, fe_)).2 = (mxn, fen_)) (va_A [(xo_8_rrriirrriiiiiiirrirrrrri mo m_la m_sz m_it ms mt m_st m_mv m_tp (nI mz) ml (nI mp) mk mv mb mw m_rd m_ac (nI ma) m_as m_wo m_ik m_ke m_tr (nI mx)), (xI m_st cI 38 fs), (xI m_tr cI 16 fe_)] sz)) 0 0 (va_A [(xo_8_rrriirrriiiiiiirrirrrrri mo m_la m_sz m_it ms mt m_st m_mv m_tp (nI mz) ml (nI mp) mk mv mb mw m_rd m_ac (nI ma) m_as m_wo m_ik m_ke m_tr (nI mx)), (xI m_st cI 38 fs), (xI m_tr cI 16 fe_)] sz) := by
  refine Met.ofW (cc := cX8_voiceSize) (maxL := 3) (ret := (some .int)) (by decide) rfl ?_
  intro p e s m args below meth c s₁ B hml hv
  obtain ⟨rfl, hsz, hP, hK, hD0⟩ := hv
  have hx := B.exec
  have hb := B.bytes
  have hr := B.returns
  have hts := atoms_spec (ws := wsX8_voiceSize) B.pre
  have hown : s.vm.findClass RX8 = some m.cls := findClass_of_methodNamed B.named
  have hlocks := B.notSynchronized
  subst hsz
  have hD := hD0.self (sz := s.heap.size)
  generalize hAe : va_A [(xo_8_rrriirrriiiiiiirrirrrrri mo m_la m_sz m_it ms mt m_st m_mv m_tp (nI mz) ml (nI mp) mk mv mb mw m_rd m_ac (nI ma) m_as m_wo m_ik m_ke m_tr (nI mx)), (xI m_st cI 38 fs), (xI m_tr cI 16 fe_)] s.heap.size = A at hD ⊢
  have hA : ∀ q : Nat, s.heap.size ≤ q → A q := fun q h => by rw [← hAe]; exact Or.inr h
  have hS : va_S A s.heap s.heap [] := va_S.rf
  have hP : va_P (dC, dI) vwCl [(xo_8_rrriirrriiiiiiirrirrrrri mo m_la m_sz m_it ms mt m_st m_mv m_tp (nI mz) ml (nI mp) mk mv mb mw m_rd m_ac (nI ma) m_as m_wo m_ik m_ke m_tr (nI mx)), (xI m_st cI 38 fs), (xI m_tr cI 16 fe_)] s.heap := hP
  have hl := lv_entry ([.ref mo, .int (nI i)]) (n := 3) (Nat.le_of_ble_eq_true rfl)
  rw [lg_entry_eq]
  generalize (lg_sl ([.ref mo, .int (nI i)]) ++ List.replicate (3 - (lg_sl ([.ref mo, .int (nI i)])).length) Slot.unset).toArray = ls at hl ⊢
  have hl : lv_has ls 3 [(0, .ref mo), (1, .int (nI i))] := hl
  refine lv_aload_n hx hb dX8_voiceSize_0 rfl (lv_at hl 0 rfl) ?_
  refine lv_bipush (v := 11) hx hb dX8_voiceSize_1 (by decide) ?_
  have hc_1 := cutW (wc := [(xo_8_rrriirrriiiiiiirrirrrrri mo m_la m_sz m_it ms mt m_st m_mv m_tp (nI mz) ml (nI mp) mk mv mb mw m_rd m_ac (nI ma) m_as m_wo m_ik m_ke m_tr (nI mx)), (xI m_tr cI 16 fe_)]) hP hD hS hA [0, 2] (by decide +kernel) rfl
  refine va_callv (va_runV (As := [.int 11]) (rest := []) ⟨hx, hb, hml, hown, hts⟩ (r_X8_begin l dC dI cI cZ cL cJ s.heap.size mo m_la m_sz m_it m_st m_mv m_tp m_rd m_ac m_as m_wo m_ik m_ke m_tr ms mt ml mk mv mb mw mz mp ma mx fe_ 11 (by omega)) (cwV 1 hts gX8_voiceSize_X8_begin rfl rfl rfl (by decide +kernel) ⟨Nat.le_of_ble_eq_true rfl, Nat.le_of_ble_eq_true rfl⟩) (pvW 8 0 hK hP rfl rfl hc_1) rfl rfl hl.1 rfl (lv_room (Nat.le_of_ble_eq_true rfl)) dX8_voiceSize_3 ⟨Nat.le_of_ble_eq_true rfl, Nat.le_of_ble_eq_true rfl⟩) hS (fun q _ h => hc_1.2.2 q h) hc_1.2.2 (fun u_1 t_1 H1 locs ht hvm h_1 hB hz1 hk1 hS => ?_)
  refine xl_2_4 hB (fun mxn_1 fen__1 hP1 hD1 hF_1_0 hF_1_1 => ?_)
  clear hB
  rw [ht] at hP1
  obtain ⟨hP, hD⟩ := va_join (wr := [(xI m_st cI 38 fs)]) (w1 := [(xo_8_rrriirrriiiiiiirrirrrrri mo m_la m_sz m_it ms mt m_st m_mv m_tp (nI mz) ml (nI mp) mk mv mb mw m_rd m_ac (nI ma) m_as m_wo m_ik m_ke m_tr (nI mxn_1)), (xI m_tr cI 16 fen__1)]) hP hD [0, 2] [1] rfl rfl (by decide +kernel) (by decide +kernel) hk1 hc_1.2.2 hP1 hD1
  generalize H1 = H at hP hS ⊢
  have hP : va_P (dC, dI) vwCl [(xI m_st cI 38 fs), (xo_8_rrriirrriiiiiiirrirrrrri mo m_la m_sz m_it ms mt m_st m_mv m_tp (nI mz) ml (nI mp) mk mv mb mw m_rd m_ac (nI ma) m_as m_wo m_ik m_ke m_tr (nI mxn_1)), (xI m_tr cI 16 fen__1)] H := hP
  have hD := dto hP hD
  refine lv_aload_n hx hb dX8_voiceSize_6 rfl (lv_at hl 0 rfl) ?_
  refine lv_iload_n hx hb dX8_voiceSize_7 rfl (lv_at hl 1 rfl) ?_
  refine lv_bipush (v := 10) hx hb dX8_voiceSize_8 (by decide) ?_
  have hc_2 := cutW (wc := [(xo_8_rrriirrriiiiiiirrirrrrri mo m_la m_sz m_it ms mt m_st m_mv m_tp (nI mz) ml (nI mp) mk mv mb mw m_rd m_ac (nI ma) m_as m_wo m_ik m_ke m_tr (nI mxn_1)), (xI m_st cI 38 fs), (xI m_tr cI 16 fen__1)]) hP hD hS hA [1, 0, 2] (by decide +kernel) rfl
  refine va_calli (va_runV (As := [.int (nI i), .int 10]) (rest := []) ⟨hx, hb, hml, hown, hts⟩ (r_X8_lent l dC dI cI cZ cL cJ H.size mo m_la m_sz m_it m_st m_mv m_tp m_rd m_ac m_as m_wo m_ik m_ke m_tr ms mt ml mk mv mb mw mz mp ma mxn_1 fs fen__1 i 10 (by omega) (by omega)) (cwV 2 hts gX8_voiceSize_X8_lent rfl rfl rfl (by decide +kernel) ⟨Nat.le_of_ble_eq_true rfl, Nat.le_of_ble_eq_true rfl⟩) (pvW 8 1 hK hP rfl rfl hc_2) rfl rfl hl.1 rfl (lv_room (Nat.le_of_ble_eq_true rfl)) dX8_voiceSize_10 ⟨Nat.le_of_ble_eq_true rfl, Nat.le_of_ble_eq_true rfl⟩) hS (fun q _ h => hc_2.2.2 q h) hc_2.2.2 (fun r_2 u_2 t_2 H1 locs ht hvm h_2 hB hz1 hk1 hS => ?_)
  refine xl_2_4 hB (fun mxn_2 fen__2 hP1 hD1 hF_2_0 hF_2_1 => ?_)
  clear hB
  rw [ht] at hP1
  obtain ⟨hP, hD⟩ := va_join (wr := []) (w1 := [(xo_8_rrriirrriiiiiiirrirrrrri mo m_la m_sz m_it ms mt m_st m_mv m_tp (nI mz) ml (nI mp) mk mv mb mw m_rd m_ac (nI ma) m_as m_wo m_ik m_ke m_tr (nI mxn_2)), (xI m_st cI 38 fs), (xI m_tr cI 16 fen__2)]) hP hD [1, 0, 2] [] rfl rfl (by decide +kernel) (by decide +kernel) hk1 hc_2.2.2 hP1 hD1
  generalize H1 = H at hP hS ⊢
  have hP : va_P (dC, dI) vwCl [(xo_8_rrriirrriiiiiiirrirrrrri mo m_la m_sz m_it ms mt m_st m_mv m_tp (nI mz) ml (nI mp) mk mv mb mw m_rd m_ac (nI ma) m_as m_wo m_ik m_ke m_tr (nI mxn_2)), (xI m_st cI 38 fs), (xI m_tr cI 16 fen__2)] H := hP
  have hD := dto hP hD
  refine lv_istore_n (lv' := [(2, .int r_2), (0, .ref mo), (1, .int (nI i))]) hx hb dX8_voiceSize_13 rfl hl (by decide) rfl (fun ls hl => ?_)
  refine lv_iload_n hx hb dX8_voiceSize_14 rfl (lv_at hl 0 rfl) ?_
  refine lv_aload_n hx hb dX8_voiceSize_15 rfl (lv_at hl 1 rfl) ?_
  refine lv_iload_n hx hb dX8_voiceSize_16 rfl (lv_at hl 2 rfl) ?_
  have hc_3 := cutW (wc := [(xo_8_rrriirrriiiiiiirrirrrrri mo m_la m_sz m_it ms mt m_st m_mv m_tp (nI mz) ml (nI mp) mk mv mb mw m_rd m_ac (nI ma) m_as m_wo m_ik m_ke m_tr (nI mxn_2)), (xI m_st cI 38 fs), (xI m_tr cI 16 fen__2)]) hP hD hS hA [0, 1, 2] (by decide +kernel) rfl
  refine va_calli (va_runV (As := [.int (nI i)]) (rest := [.int r_2]) ⟨hx, hb, hml, hown, hts⟩ (r_X8_markOf l dC dI cI cZ cL cJ H.size mo m_la m_sz m_it m_st m_mv m_tp m_rd m_ac m_as m_wo m_ik m_ke m_tr ms mt ml mk mv mb mw mz mp ma mxn_2 fs fen__2 i (by omega) (by omega)) (cwV 1 hts gX8_voiceSize_X8_markOf rfl rfl rfl (by decide +kernel) ⟨Nat.le_of_ble_eq_true rfl, Nat.le_of_ble_eq_true rfl⟩) (pvW 8 0 hK hP rfl rfl hc_3) rfl rfl hl.1 rfl (lv_room (Nat.le_of_ble_eq_true rfl)) dX8_voiceSize_17 ⟨Nat.le_of_ble_eq_true rfl, Nat.le_of_ble_eq_true rfl⟩) hS (fun q _ h => hc_3.2.2 q h) hc_3.2.2 (fun r_3 u_3 t_3 H1 locs ht hvm h_3 hB hz1 hk1 hS => ?_)
  refine xl_2_4 hB (fun mxn_3 fen__3 hP1 hD1 hF_3_0 hF_3_1 => ?_)
  clear hB
  rw [ht] at hP1
  obtain ⟨hP, hD⟩ := va_join (wr := []) (w1 := [(xo_8_rrriirrriiiiiiirrirrrrri mo m_la m_sz m_it ms mt m_st m_mv m_tp (nI mz) ml (nI mp) mk mv mb mw m_rd m_ac (nI ma) m_as m_wo m_ik m_ke m_tr (nI mxn_3)), (xI m_st cI 38 fs), (xI m_tr cI 16 fen__3)]) hP hD [0, 1, 2] [] rfl rfl (by decide +kernel) (by decide +kernel) hk1 hc_3.2.2 hP1 hD1
  generalize H1 = H at hP hS ⊢
  have hP : va_P (dC, dI) vwCl [(xo_8_rrriirrriiiiiiirrirrrrri mo m_la m_sz m_it ms mt m_st m_mv m_tp (nI mz) ml (nI mp) mk mv mb mw m_rd m_ac (nI ma) m_as m_wo m_ik m_ke m_tr (nI mxn_3)), (xI m_st cI 38 fs), (xI m_tr cI 16 fen__3)] H := hP
  have hD := dto hP hD
  refine lv_iadd hx hb dX8_voiceSize_20 ?_
  refine lv_topi (fun v_4 e_4 => ?_)
  have hX9 := cut2 (wc := [(xo_8_rrriirrriiiiiiirrirrrrri mo m_la m_sz m_it ms mt m_st m_mv m_tp (nI mz) ml (nI mp) mk mv mb mw m_rd m_ac (nI ma) m_as m_wo m_ik m_ke m_tr (nI mxn_3)), (xI m_st cI 38 fs), (xI m_tr cI 16 fen__3)]) hP hD [0, 1, 2] (by decide +kernel) rfl
  exact W.iret (v := v_4) hx hb hr (fun t ht hW => ⟨⟨v_4, (), rfl, (lf_X8_voiceSize_2 hmx hi hF_1_0 hF_1_1 hF_2_0 hF_2_1 h_2 hF_3_0 hF_3_1 h_3 e_4), ⟨mxn_3, fen__3, va_Ht ht hX9.1, hX9.2, (by omega), (lf_X8_voiceSize_1 hmx hi hF_1_0 hF_1_1 hF_2_0 hF_2_1 h_2 hF_3_0 hF_3_1 h_3 e_4)⟩⟩, hS.F ht⟩) hS.2.2 dX8_voiceSize_21
theorem lf_X8_sizeOf_1 {mx : Nat} {fs : Nat → Int32} {fe_ : Nat → Int32} {i : Nat} {v_2 : Int32} {mxn_5 : Nat} {fen__5 : Nat → Int32} {r_5 : Int32} (hmx : mx ≤ 16) (hi : i < 6) (e_2 : v_2 = fs (14 + i)) (c_3 : ¬ (v_2 = 2)) (c_4 : v_2 < 4) (hF_5_0 : mxn_5 ≤ 16) (hF_5_1 : (vsM fs i (mx, fe_)).2 = (mxn_5, fen__5)) (h_5 : r_5 = ((vsM fs i (mx, fe_)).1)) : (szM fs i (mx, fe_)).2 = (mxn_5, fen__5) := by
  first
  | omega
  | (simp only [szM]; grind)
theorem lf_X8_sizeOf_2 {mx : Nat} {fs : Nat → Int32} {fe_ : Nat → Int32} {i : Nat} {v_2 : Int32} {mxn_5 : Nat} {fen__5 : Nat → Int32} {r_5 : Int32} (hmx : mx ≤ 16) (hi : i < 6) (e_2 : v_2 = fs (14 + i)) (c_3 : ¬ (v_2 = 2)) (c_4 : v_2 < 4) (hF_5_0 : mxn_5 ≤ 16) (hF_5_1 : (vsM fs i (mx, fe_)).2 = (mxn_5, fen__5)) (h_5 : r_5 = ((vsM fs i (mx, fe_)).1)) : r_5 = ((szM fs i (mx, fe_)).1) := by
  first
  | omega
  | (simp only [szM]; grind)
theorem lf_X8_sizeOf_3 {mx : Nat} {fs : Nat → Int32} {fe_ : Nat → Int32} {i : Nat} {v_2 : Int32} {mxn_6 : Nat} {fen__6 : Nat → Int32} {r_6 : Int32} (hmx : mx ≤ 16) (hi : i < 6) (e_2 : v_2 = fs (14 + i)) (c_3 : ¬ (v_2 = 2)) (c_4 : ¬ (v_2 < 4)) (hF_6_0 : mxn_6 ≤ 16) (hF_6_1 : (sdM fs i (mx, fe_)).2 = (mxn_6, fen__6)) (h_6 : r_6 = ((sdM fs i (mx, fe_)).1)) : (szM fs i (mx, fe_)).2 = (mxn_6, fen__6) := by
  first
  | omega
  | (simp only [szM]; grind)
theorem lf_X8_sizeOf_4 {mx : Nat} {fs : Nat → Int32} {fe_ : Nat → Int32} {i : Nat} {v_2 : Int32} {mxn_6 : Nat} {fen__6 : Nat → Int32} {r_6 : Int32} (hmx : mx ≤ 16) (hi : i < 6) (e_2 : v_2 = fs (14 + i)) (c_3 : ¬ (v_2 = 2)) (c_4 : ¬ (v_2 < 4)) (hF_6_0 : mxn_6 ≤ 16) (hF_6_1 : (sdM fs i (mx, fe_)).2 = (mxn_6, fen__6)) (h_6 : r_6 = ((sdM fs i (mx, fe_)).1)) : r_6 = ((szM fs i (mx, fe_)).1) := by
  first
  | omega
  | (simp only [szM]; grind)
theorem lf_X8_sizeOf_5 {mx : Nat} {fs : Nat → Int32} {fe_ : Nat → Int32} {i : Nat} {v_2 : Int32} {mxn_7 : Nat} {fen__7 : Nat → Int32} {mxn_8 : Nat} {fen__8 : Nat → Int32} {r_8 : Int32} {v_9 : Int32} (hmx : mx ≤ 16) (hi : i < 6) (e_2 : v_2 = fs (14 + i)) (c_3 : v_2 = 2) (hF_7_0 : mxn_7 ≤ 16) (hF_7_1 : lvX 12 (mx, fe_) = (mxn_7, fen__7)) (hF_8_0 : mxn_8 ≤ 16) (hF_8_1 : (vsM fs i (mxn_7, fen__7)).2 = (mxn_8, fen__8)) (h_8 : r_8 = ((vsM fs i (mxn_7, fen__7)).1)) (e_9 : v_9 = (-r_8)) : (szM fs i (mx, fe_)).2 = (mxn_8, fen__8) := by
  first
  | omega
  | (simp only [szM]; grind)
theorem lf_X8_sizeOf_6 {mx : Nat} {fs : Nat → Int32} {fe_ : Nat → Int32} {i : Nat} {v_2 : Int32} {mxn_7 : Nat} {fen__7 : Nat → Int32} {mxn_8 : Nat} {fen__8 : Nat → Int32} {r_8 : Int32} {v_9 : Int32} (hmx : mx ≤ 16) (hi : i < 6) (e_2 : v_2 = fs (14 + i)) (c_3 : v_2 = 2) (hF_7_0 : mxn_7 ≤ 16) (hF_7_1 : lvX 12 (mx, fe_) = (mxn_7, fen__7)) (hF_8_0 : mxn_8 ≤ 16) (hF_8_1 : (vsM fs i (mxn_7, fen__7)).2 = (mxn_8, fen__8)) (h_8 : r_8 = ((vsM fs i (mxn_7, fen__7)).1)) (e_9 : v_9 = (-r_8)) : v_9 = ((szM fs i (mx, fe_)).1) := by
  first
  | omega
  | (simp only [szM]; grind)
set_option maxHeartbeats 4000000 in
set_option maxRecDepth 100000 in
theorem r_X8_sizeOf (l : Launch) (dC : Nat → ClassId) (dI : Nat → Nat → Nat) (cI cZ cL cJ : ClassId) (sz : Nat) (mo : Nat) (m_la : Nat) (m_sz : Nat) (m_it : Nat) (m_st : Nat) (m_mv : Nat) (m_tp : Nat) (m_rd : Nat) (m_ac : Nat) (m_as : Nat) (m_wo : Nat) (m_ik : Nat) (m_ke : Nat) (m_tr : Nat) (ms : Int32) (mt : Int32) (ml : Int32) (mk : Int32) (mv : Int32) (mb : Int32) (mw : Int32) (mz : Nat) (mp : Nat) (ma : Nat) (mx : Nat) (fs : Nat → Int32) (fe_ : Nat → Int32) (i : Nat) (hmx : mx ≤ 16) (hi : i < 6) : Met l yX8_sizeOf wsX8_sizeOf ({ frames := 6, cells := 0, slots := 0, locals := 130 }) (va_Pc [.ref mo, .int (nI i)] (fun U => U.heap.size = sz ∧ va_P (dC, dI) vwCl [(xo_8_rrriirrriiiiiiirrirrrrri mo m_la m_sz m_it ms mt m_st m_mv m_tp (nI mz) ml (nI mp) mk mv mb mw m_rd m_ac (nI ma) m_as m_wo m_ik m_ke m_tr (nI mx)), (xI m_st cI 38 fs), (xI m_tr cI 16 fe_)] U.heap ∧ va_K (dC, dI) vwCl [(cI, .int), (cZ, .boolean), (cL, .object RX3), (cJ, .array .int)] U ∧ va_D (fun _ => True) [(xo_8_rrriirrriiiiiiirrirrrrri mo m_la m_sz m_it ms mt m_st m_mv m_tp (nI mz) ml (nI mp) mk mv mb mw m_rd m_ac (nI ma) m_as m_wo m_ik m_ke m_tr (nI mx)), (xI m_st cI 38 fs), (xI m_tr cI 16 fe_)])) (va_Qi (fun r (_ : Unit) => r = ((szM fs i (mx, fe_)).1)) (fun (_ : Unit) t => ∃ (mxn : Nat) (fen_ : Nat → Int32), va_P (dC, dI) vwCl [(xo_8_rrriirrriiiiiiirrirrrrri mo m_la m_sz m_it ms mt m_st m_mv m_tp (nI mz) ml (nI mp) mk mv mb mw m_rd m_ac (nI ma) m_as m_wo m_ik m_ke m_tr (nI mxn)), (xI m_st cI 38 fs), (xI m_tr cI 16 fen_)] t.heap ∧ va_D (va_A [(xo_8_rrriirrriiiiiiirrirrrrri mo m_la m_sz m_it ms mt m_st m_mv m_tp (nI mz) ml (nI mp) mk mv mb mw m_rd m_ac (nI ma) m_as m_wo m_ik m_ke m_tr (nI mx)), (xI m_st cI 38 fs), (xI m_tr cI 16 fe_)] sz) [(xo_8_rrriirrriiiiiiirrirrrrri mo m_la m_sz m_it ms mt m_st m_mv m_tp (nI mz) ml (nI mp) mk mv mb mw m_rd m_ac (nI ma) m_as m_wo m_ik m_ke m_tr (nI mxn)), (xI m_st cI 38 fs), (xI m_tr cI 16 fen_)] ∧ mxn ≤ 16 ∧ (szM fs i (mx, fe_)).2 = (mxn, fen_)) (va_A [(xo_8_rrriirrriiiiiiirrirrrrri mo m_la m_sz m_it ms mt m_st m_mv m_tp (nI mz) ml (nI mp) mk mv mb mw m_rd m_ac (nI ma) m_as m_wo m_ik m_ke m_tr (nI mx)), (xI m_st cI 38 fs), (xI m_tr cI 16 fe_)] sz)) 0 0 (va_A [(xo_8_rrriirrriiiiiiirrirrrrri mo m_la m_sz m_it ms mt m_st m_mv m_tp (nI mz) ml (nI mp) mk mv mb mw m_rd m_ac (nI ma) m_as m_wo m_ik m_ke m_tr (nI mx)), (xI m_st cI 38 fs), (xI m_tr cI 16 fe_)] sz) := by
  refine Met.ofW (cc := cX8_sizeOf) (maxL := 3) (ret := (some .int)) (by decide) rfl ?_
  intro p e s m args below meth c s₁ B hml hv
  obtain ⟨rfl, hsz, hP, hK, hD0⟩ := hv
  have hx := B.exec
  have hb := B.bytes
  have hr := B.returns
  have hts := atoms_spec (ws := wsX8_sizeOf) B.pre
  have hown : s.vm.findClass RX8 = some m.cls := findClass_of_methodNamed B.named
  have hlocks := B.notSynchronized
  subst hsz
  have hD := hD0.self (sz := s.heap.size)
  generalize hAe : va_A [(xo_8_rrriirrriiiiiiirrirrrrri mo m_la m_sz m_it ms mt m_st m_mv m_tp (nI mz) ml (nI mp) mk mv mb mw m_rd m_ac (nI ma) m_as m_wo m_ik m_ke m_tr (nI mx)), (xI m_st cI 38 fs), (xI m_tr cI 16 fe_)] s.heap.size = A at hD ⊢
  have hA : ∀ q : Nat, s.heap.size ≤ q → A q := fun q h => by rw [← hAe]; exact Or.inr h
  have hS : va_S A s.heap s.heap [] := va_S.rf
  have hP : va_P (dC, dI) vwCl [(xo_8_rrriirrriiiiiiirrirrrrri mo m_la m_sz m_it ms mt m_st m_mv m_tp (nI mz) ml (nI mp) mk mv mb mw m_rd m_ac (nI ma) m_as m_wo m_ik m_ke m_tr (nI mx)), (xI m_st cI 38 fs), (xI m_tr cI 16 fe_)] s.heap := hP
  have hl := lv_entry ([.ref mo, .int (nI i)]) (n := 3) (Nat.le_of_ble_eq_true rfl)
  rw [lg_entry_eq]
  generalize (lg_sl ([.ref mo, .int (nI i)]) ++ List.replicate (3 - (lg_sl ([.ref mo, .int (nI i)])).length) Slot.unset).toArray = ls at hl ⊢
  have hl : lv_has ls 3 [(0, .ref mo), (1, .int (nI i))] := hl
  refine lv_aload_n hx hb dX8_sizeOf_0 rfl (lv_at hl 0 rfl) ?_
  refine va_get (D := (dC, dI)) (ci := 8) (v := .ref m_st) (C := RX8) (T := TX8) (N := 24) hx hb hts i_X8_sizeOf_X8 hown hK hP 0 rfl rfl 5 (by decide) (hts _ mx_X8_sizeOf_1) (fun _ h9 => h9) rfl dX8_sizeOf_1 ?_
  refine lv_bipush (v := 14) hx hb dX8_sizeOf_4 (by decide) ?_
  refine lv_iload_n hx hb dX8_sizeOf_6 rfl (lv_at hl 1 rfl) ?_
  refine lv_iadd hx hb dX8_sizeOf_7 ?_
  refine lv_topi (fun v_1 e_1 => ?_)
  obtain rfl : v_1 = (nI (14 + i)) := (e_1).trans (nI_add 14 i)
  refine va_iald hx hb hK hP 1 0 rfl rfl (vp_in_nI (by omega) (by omega)) dX8_sizeOf_8 ?_
  refine lv_topi (fun v_2 e_2 => ?_)
  have e_2 : v_2 = fs (14 + i) := e_2.trans (congrArg fs (nI_clamp (by omega)))
  refine lv_istore_n (lv' := [(2, .int v_2), (0, .ref mo), (1, .int (nI i))]) hx hb dX8_sizeOf_9 rfl hl (by decide) rfl (fun ls hl => ?_)
  refine lv_iload_n hx hb dX8_sizeOf_10 rfl (lv_at hl 0 rfl) ?_
  refine lv_iconst (v := 2) hx hb dX8_sizeOf_11 (by decide) ?_
  refine lv_icmp_ne (tgt := 28) hx hb dX8_sizeOf_12 (by decide) (fun c_3 => ?_) (fun c_3 => ?_)
  · skip
    refine lv_iload_n hx hb dX8_sizeOf_28 rfl (lv_at hl 0 rfl) ?_
    refine lv_iconst (v := 4) hx hb dX8_sizeOf_29 (by decide) ?_
    refine lv_icmp_lt (tgt := 41) hx hb dX8_sizeOf_30 (by decide) (fun c_4 => ?_) (fun c_4 => ?_)
    · skip
      refine lv_aload_n hx hb dX8_sizeOf_41 rfl (lv_at hl 1 rfl) ?_
      refine lv_iload_n hx hb dX8_sizeOf_42 rfl (lv_at hl 2 rfl) ?_
      have hc_5 := cutW (wc := [(xo_8_rrriirrriiiiiiirrirrrrri mo m_la m_sz m_it ms mt m_st m_mv m_tp (nI mz) ml (nI mp) mk mv mb mw m_rd m_ac (nI ma) m_as m_wo m_ik m_ke m_tr (nI mx)), (xI m_st cI 38 fs), (xI m_tr cI 16 fe_)]) hP hD hS hA [0, 1, 2] (by decide +kernel) rfl
      refine va_calli (va_runV (As := [.int (nI i)]) (rest := []) ⟨hx, hb, hml, hown, hts⟩ (r_X8_voiceSize l dC dI cI cZ cL cJ s.heap.size mo m_la m_sz m_it m_st m_mv m_tp m_rd m_ac m_as m_wo m_ik m_ke m_tr ms mt ml mk mv mb mw mz mp ma mx fs fe_ i (by omega) (by omega)) (cwV 1 hts gX8_sizeOf_X8_voiceSize rfl rfl rfl (by decide +kernel) ⟨Nat.le_of_ble_eq_true rfl, Nat.le_of_ble_eq_true rfl⟩) (pvW 8 0 hK hP rfl rfl hc_5) rfl rfl hl.1 rfl (lv_room (Nat.le_of_ble_eq_true rfl)) dX8_sizeOf_43 ⟨Nat.le_of_ble_eq_true rfl, Nat.le_of_ble_eq_true rfl⟩) hS (fun q _ h => hc_5.2.2 q h) hc_5.2.2 (fun r_5 u_5 t_5 H1 locs ht hvm h_5 hB hz1 hk1 hS => ?_)
      refine xl_2_4 hB (fun mxn_5 fen__5 hP1 hD1 hF_5_0 hF_5_1 => ?_)
      clear hB
      rw [ht] at hP1
      obtain ⟨hP, hD⟩ := va_join (wr := []) (w1 := [(xo_8_rrriirrriiiiiiirrirrrrri mo m_la m_sz m_it ms mt m_st m_mv m_tp (nI mz) ml (nI mp) mk mv mb mw m_rd m_ac (nI ma) m_as m_wo m_ik m_ke m_tr (nI mxn_5)), (xI m_st cI 38 fs), (xI m_tr cI 16 fen__5)]) hP hD [0, 1, 2] [] rfl rfl (by decide +kernel) (by decide +kernel) hk1 hc_5.2.2 hP1 hD1
      generalize H1 = H at hP hS ⊢
      have hP : va_P (dC, dI) vwCl [(xo_8_rrriirrriiiiiiirrirrrrri mo m_la m_sz m_it ms mt m_st m_mv m_tp (nI mz) ml (nI mp) mk mv mb mw m_rd m_ac (nI ma) m_as m_wo m_ik m_ke m_tr (nI mxn_5)), (xI m_st cI 38 fs), (xI m_tr cI 16 fen__5)] H := hP
      have hD := dto hP hD
      have hX9 := cut2 (wc := [(xo_8_rrriirrriiiiiiirrirrrrri mo m_la m_sz m_it ms mt m_st m_mv m_tp (nI mz) ml (nI mp) mk mv mb mw m_rd m_ac (nI ma) m_as m_wo m_ik m_ke m_tr (nI mxn_5)), (xI m_st cI 38 fs), (xI m_tr cI 16 fen__5)]) hP hD [0, 1, 2] (by decide +kernel) rfl
      exact W.iret (v := r_5) hx hb hr (fun t ht hW => ⟨⟨r_5, (), rfl, (lf_X8_sizeOf_2 hmx hi e_2 c_3 c_4 hF_5_0 hF_5_1 h_5), ⟨mxn_5, fen__5, va_Ht ht hX9.1, hX9.2, (by omega), (lf_X8_sizeOf_1 hmx hi e_2 c_3 c_4 hF_5_0 hF_5_1 h_5)⟩⟩, hS.F ht⟩) hS.2.2 dX8_sizeOf_46
    · skip
      refine lv_aload_n hx hb dX8_sizeOf_33 rfl (lv_at hl 1 rfl) ?_
      refine lv_iload_n hx hb dX8_sizeOf_34 rfl (lv_at hl 2 rfl) ?_
      have hc_6 := cutW (wc := [(xo_8_rrriirrriiiiiiirrirrrrri mo m_la m_sz m_it ms mt m_st m_mv m_tp (nI mz) ml (nI mp) mk mv mb mw m_rd m_ac (nI ma) m_as m_wo m_ik m_ke m_tr (nI mx)), (xI m_st cI 38 fs), (xI m_tr cI 16 fe_)]) hP hD hS hA [0, 1, 2] (by decide +kernel) rfl
      refine va_calli (va_runV (As := [.int (nI i)]) (rest := []) ⟨hx, hb, hml, hown, hts⟩ (r_X8_sizeOfDutch l dC dI cI cZ cL cJ s.heap.size mo m_la m_sz m_it m_st m_mv m_tp m_rd m_ac m_as m_wo m_ik m_ke m_tr ms mt ml mk mv mb mw mz mp ma mx fs fe_ i (by omega) (by omega)) (cwV 1 hts gX8_sizeOf_X8_sizeOfDutch rfl rfl rfl (by decide +kernel) ⟨Nat.le_of_ble_eq_true rfl, Nat.le_of_ble_eq_true rfl⟩) (pvW 8 0 hK hP rfl rfl hc_6) rfl rfl hl.1 rfl (lv_room (Nat.le_of_ble_eq_true rfl)) dX8_sizeOf_35 ⟨Nat.le_of_ble_eq_true rfl, Nat.le_of_ble_eq_true rfl⟩) hS (fun q _ h => hc_6.2.2 q h) hc_6.2.2 (fun r_6 u_6 t_6 H1 locs ht hvm h_6 hB hz1 hk1 hS => ?_)
      refine xl_2_4 hB (fun mxn_6 fen__6 hP1 hD1 hF_6_0 hF_6_1 => ?_)
      clear hB
      rw [ht] at hP1
      obtain ⟨hP, hD⟩ := va_join (wr := []) (w1 := [(xo_8_rrriirrriiiiiiirrirrrrri mo m_la m_sz m_it ms mt m_st m_mv m_tp (nI mz) ml (nI mp) mk mv mb mw m_rd m_ac (nI ma) m_as m_wo m_ik m_ke m_tr (nI mxn_6)), (xI m_st cI 38 fs), (xI m_tr cI 16 fen__6)]) hP hD [0, 1, 2] [] rfl rfl (by decide +kernel) (by decide +kernel) hk1 hc_6.2.2 hP1 hD1
      generalize H1 = H at hP hS ⊢
      have hP : va_P (dC, dI) vwCl [(xo_8_rrriirrriiiiiiirrirrrrri mo m_la m_sz m_it ms mt m_st m_mv m_tp (nI mz) ml (nI mp) mk mv mb mw m_rd m_ac (nI ma) m_as m_wo m_ik m_ke m_tr (nI mxn_6)), (xI m_st cI 38 fs), (xI m_tr cI 16 fen__6)] H := hP
      have hD := dto hP hD
      refine lv_goto (tgt := 46) hx hb dX8_sizeOf_38 (by decide) ?_
      have hX9 := cut2 (wc := [(xo_8_rrriirrriiiiiiirrirrrrri mo m_la m_sz m_it ms mt m_st m_mv m_tp (nI mz) ml (nI mp) mk mv mb mw m_rd m_ac (nI ma) m_as m_wo m_ik m_ke m_tr (nI mxn_6)), (xI m_st cI 38 fs), (xI m_tr cI 16 fen__6)]) hP hD [0, 1, 2] (by decide +kernel) rfl
      exact W.iret (v := r_6) hx hb hr (fun t ht hW => ⟨⟨r_6, (), rfl, (lf_X8_sizeOf_4 hmx hi e_2 c_3 c_4 hF_6_0 hF_6_1 h_6), ⟨mxn_6, fen__6, va_Ht ht hX9.1, hX9.2, (by omega), (lf_X8_sizeOf_3 hmx hi e_2 c_3 c_4 hF_6_0 hF_6_1 h_6)⟩⟩, hS.F ht⟩) hS.2.2 dX8_sizeOf_46
  · skip
    refine lv_aload_n hx hb dX8_sizeOf_15 rfl (lv_at hl 1 rfl) ?_
    refine lv_bipush (v := 12) hx hb dX8_sizeOf_16 (by decide) ?_
    have hc_7 := cutW (wc := [(xo_8_rrriirrriiiiiiirrirrrrri mo m_la m_sz m_it ms mt m_st m_mv m_tp (nI mz) ml (nI mp) mk mv mb mw m_rd m_ac (nI ma) m_as m_wo m_ik m_ke m_tr (nI mx)), (xI m_tr cI 16 fe_)]) hP hD hS hA [0, 2] (by decide +kernel) rfl
    refine va_callv (va_runV (As := [.int 12]) (rest := []) ⟨hx, hb, hml, hown, hts⟩ (r_X8_begin l dC dI cI cZ cL cJ s.heap.size mo m_la m_sz m_it m_st m_mv m_tp m_rd m_ac m_as m_wo m_ik m_ke m_tr ms mt ml mk mv mb mw mz mp ma mx fe_ 12 (by omega)) (cwV 1 hts gX8_sizeOf_X8_begin rfl rfl rfl (by decide +kernel) ⟨Nat.le_of_ble_eq_true rfl, Nat.le_of_ble_eq_true rfl⟩) (pvW 8 0 hK hP rfl rfl hc_7) rfl rfl hl.1 rfl (lv_room (Nat.le_of_ble_eq_true rfl)) dX8_sizeOf_18 ⟨Nat.le_of_ble_eq_true rfl, Nat.le_of_ble_eq_true rfl⟩) hS (fun q _ h => hc_7.2.2 q h) hc_7.2.2 (fun u_7 t_7 H1 locs ht hvm h_7 hB hz1 hk1 hS => ?_)
    refine xl_2_4 hB (fun mxn_7 fen__7 hP1 hD1 hF_7_0 hF_7_1 => ?_)
    clear hB
    rw [ht] at hP1
    obtain ⟨hP, hD⟩ := va_join (wr := [(xI m_st cI 38 fs)]) (w1 := [(xo_8_rrriirrriiiiiiirrirrrrri mo m_la m_sz m_it ms mt m_st m_mv m_tp (nI mz) ml (nI mp) mk mv mb mw m_rd m_ac (nI ma) m_as m_wo m_ik m_ke m_tr (nI mxn_7)), (xI m_tr cI 16 fen__7)]) hP hD [0, 2] [1] rfl rfl (by decide +kernel) (by decide +kernel) hk1 hc_7.2.2 hP1 hD1
    generalize H1 = H at hP hS ⊢
    have hP : va_P (dC, dI) vwCl [(xI m_st cI 38 fs), (xo_8_rrriirrriiiiiiirrirrrrri mo m_la m_sz m_it ms mt m_st m_mv m_tp (nI mz) ml (nI mp) mk mv mb mw m_rd m_ac (nI ma) m_as m_wo m_ik m_ke m_tr (nI mxn_7)), (xI m_tr cI 16 fen__7)] H := hP
    have hD := dto hP hD
    refine lv_aload_n hx hb dX8_sizeOf_21 rfl (lv_at hl 1 rfl) ?_
    refine lv_iload_n hx hb dX8_sizeOf_22 rfl (lv_at hl 2 rfl) ?_
    have hc_8 := cutW (wc := [(xo_8_rrriirrriiiiiiirrirrrrri mo m_la m_sz m_it ms mt m_st m_mv m_tp (nI mz) ml (nI mp) mk mv mb mw m_rd m_ac (nI ma) m_as m_wo m_ik m_ke m_tr (nI mxn_7)), (xI m_st cI 38 fs), (xI m_tr cI 16 fen__7)]) hP hD hS hA [1, 0, 2] (by decide +kernel) rfl
    refine va_calli (va_runV (As := [.int (nI i)]) (rest := []) ⟨hx, hb, hml, hown, hts⟩ (r_X8_voiceSize l dC dI cI cZ cL cJ H.size mo m_la m_sz m_it m_st m_mv m_tp m_rd m_ac m_as m_wo m_ik m_ke m_tr ms mt ml mk mv mb mw mz mp ma mxn_7 fs fen__7 i (by omega) (by omega)) (cwV 1 hts gX8_sizeOf_X8_voiceSize rfl rfl rfl (by decide +kernel) ⟨Nat.le_of_ble_eq_true rfl, Nat.le_of_ble_eq_true rfl⟩) (pvW 8 1 hK hP rfl rfl hc_8) rfl rfl hl.1 rfl (lv_room (Nat.le_of_ble_eq_true rfl)) dX8_sizeOf_23 ⟨Nat.le_of_ble_eq_true rfl, Nat.le_of_ble_eq_true rfl⟩) hS (fun q _ h => hc_8.2.2 q h) hc_8.2.2 (fun r_8 u_8 t_8 H1 locs ht hvm h_8 hB hz1 hk1 hS => ?_)
    refine xl_2_4 hB (fun mxn_8 fen__8 hP1 hD1 hF_8_0 hF_8_1 => ?_)
    clear hB
    rw [ht] at hP1
    obtain ⟨hP, hD⟩ := va_join (wr := []) (w1 := [(xo_8_rrriirrriiiiiiirrirrrrri mo m_la m_sz m_it ms mt m_st m_mv m_tp (nI mz) ml (nI mp) mk mv mb mw m_rd m_ac (nI ma) m_as m_wo m_ik m_ke m_tr (nI mxn_8)), (xI m_st cI 38 fs), (xI m_tr cI 16 fen__8)]) hP hD [1, 0, 2] [] rfl rfl (by decide +kernel) (by decide +kernel) hk1 hc_8.2.2 hP1 hD1
    generalize H1 = H at hP hS ⊢
    have hP : va_P (dC, dI) vwCl [(xo_8_rrriirrriiiiiiirrirrrrri mo m_la m_sz m_it ms mt m_st m_mv m_tp (nI mz) ml (nI mp) mk mv mb mw m_rd m_ac (nI ma) m_as m_wo m_ik m_ke m_tr (nI mxn_8)), (xI m_st cI 38 fs), (xI m_tr cI 16 fen__8)] H := hP
    have hD := dto hP hD
    refine lv_ineg hx hb dX8_sizeOf_26 ?_
    refine lv_topi (fun v_9 e_9 => ?_)
    have hX9 := cut2 (wc := [(xo_8_rrriirrriiiiiiirrirrrrri mo m_la m_sz m_it ms mt m_st m_mv m_tp (nI mz) ml (nI mp) mk mv mb mw m_rd m_ac (nI ma) m_as m_wo m_ik m_ke m_tr (nI mxn_8)), (xI m_st cI 38 fs), (xI m_tr cI 16 fen__8)]) hP hD [0, 1, 2] (by decide +kernel) rfl
    exact W.iret (v := v_9) hx hb hr (fun t ht hW => ⟨⟨v_9, (), rfl, (lf_X8_sizeOf_6 hmx hi e_2 c_3 hF_7_0 hF_7_1 hF_8_0 hF_8_1 h_8 e_9), ⟨mxn_8, fen__8, va_Ht ht hX9.1, hX9.2, (by omega), (lf_X8_sizeOf_5 hmx hi e_2 c_3 hF_7_0 hF_7_1 hF_8_0 hF_8_1 h_8 e_9)⟩⟩, hS.F ht⟩) hS.2.2 dX8_sizeOf_27
theorem lf_X8_ask_1 {mx : Nat} {fs : Nat → Int32} {w9 : Nat} {k9 : Nat} {h9 : Nat} {fe_ : Nat → Int32} {a0 : Int32} {a1 : Int32} (hM : okM fs w9 k9 h9) (hmx : mx ≤ 16) (f_1_0_0 : ¬ sB (nI k9) a0) : mx = (n_ask (m38 fs) a0 a1 (mx, fe_)).1 := by
  have h9 : ∀ (j : Nat) (x : Int32) (s : T16), j < 6 → akM (m38 fs) j x s = akM fs j x s := fun j x s a => akM_c a
  first
  | omega
  | exact (askM_1 hM hj_1 hj_5 c_8 (by assumption) (by assumption)).1
  | exact (askM_1 hM hj_1 hj_5 c_8 (by assumption) (by assumption)).2.1
  | exact (askM_1 hM hj_1 hj_5 c_8 (by assumption) (by assumption)).2.2
  | exact (askM_0 hM hj_1 c_8 (by assumption) (by assumption)).1
  | exact (askM_0 hM hj_1 c_8 (by assumption) (by assumption)).2.1
  | exact (askM_0 hM hj_1 c_8 (by assumption) (by assumption)).2.2
  | (have g3 := hM.2.1
     have g6 := hM.2.2.2.2.1
     simp only [a_ask, n_ask, akM, mm0, mm1, mm2, mm3, mm4, mm5, mm6, mm7] at *
     grind [nI_clamp, nI_pos, nI_ge])
theorem lf_X8_ask_2 {mx : Nat} {fs : Nat → Int32} {w9 : Nat} {k9 : Nat} {h9 : Nat} {fe_ : Nat → Int32} {a0 : Int32} {a1 : Int32} (hM : okM fs w9 k9 h9) (hmx : mx ≤ 16) (f_1_0_0 : ¬ sB (nI k9) a0) : fe_ = (n_ask (m38 fs) a0 a1 (mx, fe_)).2 := by
  have h9 : ∀ (j : Nat) (x : Int32) (s : T16), j < 6 → akM (m38 fs) j x s = akM fs j x s := fun j x s a => akM_c a
  first
  | omega
  | exact (askM_1 hM hj_1 hj_5 c_8 (by assumption) (by assumption)).1
  | exact (askM_1 hM hj_1 hj_5 c_8 (by assumption) (by assumption)).2.1
  | exact (askM_1 hM hj_1 hj_5 c_8 (by assumption) (by assumption)).2.2
  | exact (askM_0 hM hj_1 c_8 (by assumption) (by assumption)).1
  | exact (askM_0 hM hj_1 c_8 (by assumption) (by assumption)).2.1
  | exact (askM_0 hM hj_1 c_8 (by assumption) (by assumption)).2.2
  | (have g3 := hM.2.1
     have g6 := hM.2.2.2.2.1
     simp only [a_ask, n_ask, akM, mm0, mm1, mm2, mm3, mm4, mm5, mm6, mm7] at *
     grind [nI_clamp, nI_pos, nI_ge])
theorem lf_X8_ask_3 {mx : Nat} {fs : Nat → Int32} {w9 : Nat} {k9 : Nat} {h9 : Nat} {fe_ : Nat → Int32} {a0 : Int32} {a1 : Int32} (hM : okM fs w9 k9 h9) (hmx : mx ≤ 16) (f_1_0_0 : ¬ sB (nI k9) a0) : (-1000001) = (a_ask (m38 fs) a0 a1 (mx, fe_)) := by
  have h9 : ∀ (j : Nat) (x : Int32) (s : T16), j < 6 → akM (m38 fs) j x s = akM fs j x s := fun j x s a => akM_c a
  first
  | omega
  | exact (askM_1 hM hj_1 hj_5 c_8 (by assumption) (by assumption)).1
  | exact (askM_1 hM hj_1 hj_5 c_8 (by assumption) (by assumption)).2.1
  | exact (askM_1 hM hj_1 hj_5 c_8 (by assumption) (by assumption)).2.2
  | exact (askM_0 hM hj_1 c_8 (by assumption) (by assumption)).1
  | exact (askM_0 hM hj_1 c_8 (by assumption) (by assumption)).2.1
  | exact (askM_0 hM hj_1 c_8 (by assumption) (by assumption)).2.2
  | (have g3 := hM.2.1
     have g6 := hM.2.2.2.2.1
     simp only [a_ask, n_ask, akM, mm0, mm1, mm2, mm3, mm4, mm5, mm6, mm7] at *
     grind [nI_clamp, nI_pos, nI_ge])
theorem lf_X8_ask_4 {mx : Nat} {fs : Nat → Int32} {w9 : Nat} {k9 : Nat} {h9 : Nat} {fe_ : Nat → Int32} {a1 : Int32} {j_1 : Nat} (hM : okM fs w9 k9 h9) (hmx : mx ≤ 16) (hj_1 : j_1 < k9) (hkn1 : 1 ≤ k9) (hw1 : 1 ≤ w9) (h01 : ¬ fs 0 = 0) (f_5_0_0 : ((a1).toInt64 < 0 ∨ 1 < (a1).toInt64)) (q_5 : (a1 < 0 ∨ 1 < a1)) : mx = (n_ask (m38 fs) (nI j_1) a1 (mx, fe_)).1 := by
  have h9 : ∀ (j : Nat) (x : Int32) (s : T16), j < 6 → akM (m38 fs) j x s = akM fs j x s := fun j x s a => akM_c a
  first
  | omega
  | exact (askM_1 hM hj_1 hj_5 c_8 (by assumption) (by assumption)).1
  | exact (askM_1 hM hj_1 hj_5 c_8 (by assumption) (by assumption)).2.1
  | exact (askM_1 hM hj_1 hj_5 c_8 (by assumption) (by assumption)).2.2
  | exact (askM_0 hM hj_1 c_8 (by assumption) (by assumption)).1
  | exact (askM_0 hM hj_1 c_8 (by assumption) (by assumption)).2.1
  | exact (askM_0 hM hj_1 c_8 (by assumption) (by assumption)).2.2
  | (have g3 := hM.2.1
     have g6 := hM.2.2.2.2.1
     simp only [a_ask, n_ask, akM, mm0, mm1, mm2, mm3, mm4, mm5, mm6, mm7] at *
     grind [nI_clamp, nI_pos, nI_ge])
theorem lf_X8_ask_5 {mx : Nat} {fs : Nat → Int32} {w9 : Nat} {k9 : Nat} {h9 : Nat} {fe_ : Nat → Int32} {a1 : Int32} {j_1 : Nat} (hM : okM fs w9 k9 h9) (hmx : mx ≤ 16) (hj_1 : j_1 < k9) (hkn1 : 1 ≤ k9) (hw1 : 1 ≤ w9) (h01 : ¬ fs 0 = 0) (f_5_0_0 : ((a1).toInt64 < 0 ∨ 1 < (a1).toInt64)) (q_5 : (a1 < 0 ∨ 1 < a1)) : fe_ = (n_ask (m38 fs) (nI j_1) a1 (mx, fe_)).2 := by
  have h9 : ∀ (j : Nat) (x : Int32) (s : T16), j < 6 → akM (m38 fs) j x s = akM fs j x s := fun j x s a => akM_c a
  first
  | omega
  | exact (askM_1 hM hj_1 hj_5 c_8 (by assumption) (by assumption)).1
  | exact (askM_1 hM hj_1 hj_5 c_8 (by assumption) (by assumption)).2.1
  | exact (askM_1 hM hj_1 hj_5 c_8 (by assumption) (by assumption)).2.2
  | exact (askM_0 hM hj_1 c_8 (by assumption) (by assumption)).1
  | exact (askM_0 hM hj_1 c_8 (by assumption) (by assumption)).2.1
  | exact (askM_0 hM hj_1 c_8 (by assumption) (by assumption)).2.2
  | (have g3 := hM.2.1
     have g6 := hM.2.2.2.2.1
     simp only [a_ask, n_ask, akM, mm0, mm1, mm2, mm3, mm4, mm5, mm6, mm7] at *
     grind [nI_clamp, nI_pos, nI_ge])
theorem lf_X8_ask_6 {mx : Nat} {fs : Nat → Int32} {w9 : Nat} {k9 : Nat} {h9 : Nat} {fe_ : Nat → Int32} {a1 : Int32} {j_1 : Nat} (hM : okM fs w9 k9 h9) (hmx : mx ≤ 16) (hj_1 : j_1 < k9) (hkn1 : 1 ≤ k9) (hw1 : 1 ≤ w9) (h01 : ¬ fs 0 = 0) (f_5_0_0 : ((a1).toInt64 < 0 ∨ 1 < (a1).toInt64)) (q_5 : (a1 < 0 ∨ 1 < a1)) : (-1000001) = (a_ask (m38 fs) (nI j_1) a1 (mx, fe_)) := by
  have h9 : ∀ (j : Nat) (x : Int32) (s : T16), j < 6 → akM (m38 fs) j x s = akM fs j x s := fun j x s a => akM_c a
  first
  | omega
  | exact (askM_1 hM hj_1 hj_5 c_8 (by assumption) (by assumption)).1
  | exact (askM_1 hM hj_1 hj_5 c_8 (by assumption) (by assumption)).2.1
  | exact (askM_1 hM hj_1 hj_5 c_8 (by assumption) (by assumption)).2.2
  | exact (askM_0 hM hj_1 c_8 (by assumption) (by assumption)).1
  | exact (askM_0 hM hj_1 c_8 (by assumption) (by assumption)).2.1
  | exact (askM_0 hM hj_1 c_8 (by assumption) (by assumption)).2.2
  | (have g3 := hM.2.1
     have g6 := hM.2.2.2.2.1
     simp only [a_ask, n_ask, akM, mm0, mm1, mm2, mm3, mm4, mm5, mm6, mm7] at *
     grind [nI_clamp, nI_pos, nI_ge])
theorem lf_X8_ask_7 {mx : Nat} {fs : Nat → Int32} {w9 : Nat} {k9 : Nat} {h9 : Nat} {fe_ : Nat → Int32} {j_1 : Nat} {j_5 : Nat} {mxn_9 : Nat} {fen__9 : Nat → Int32} {r_9 : Int32} (hM : okM fs w9 k9 h9) (hmx : mx ≤ 16) (hj_1 : j_1 < k9) (hkn1 : 1 ≤ k9) (hw1 : 1 ≤ w9) (h01 : ¬ fs 0 = 0) (f_5_1_0 : (¬ (((nI j_5)).toInt64 < 0 ∨ 1 < ((nI j_5)).toInt64))) (q_5 : ¬ ((nI j_5) < 0 ∨ 1 < (nI j_5))) (hj_5 : j_5 ≤ 1) (c_8 : ¬ (j_5 = 0)) (hF_9_0 : mxn_9 ≤ 16) (hF_9_1 : (mkM fs j_1 (0, fe_)).2 = (mxn_9, fen__9)) (h_9 : r_9 = ((mkM fs j_1 (0, fe_)).1)) : mxn_9 = (n_ask (m38 fs) (nI j_1) (nI j_5) (mx, fe_)).1 := by
  have h9 : ∀ (j : Nat) (x : Int32) (s : T16), j < 6 → akM (m38 fs) j x s = akM fs j x s := fun j x s a => akM_c a
  first
  | omega
  | exact (askM_1 hM hj_1 hj_5 c_8 (by assumption) (by assumption)).1
  | exact (askM_1 hM hj_1 hj_5 c_8 (by assumption) (by assumption)).2.1
  | exact (askM_1 hM hj_1 hj_5 c_8 (by assumption) (by assumption)).2.2
  | exact (askM_0 hM hj_1 c_8 (by assumption) (by assumption)).1
  | exact (askM_0 hM hj_1 c_8 (by assumption) (by assumption)).2.1
  | exact (askM_0 hM hj_1 c_8 (by assumption) (by assumption)).2.2
  | (have g3 := hM.2.1
     have g6 := hM.2.2.2.2.1
     simp only [a_ask, n_ask, akM, mm0, mm1, mm2, mm3, mm4, mm5, mm6, mm7] at *
     grind [nI_clamp, nI_pos, nI_ge])
theorem lf_X8_ask_8 {mx : Nat} {fs : Nat → Int32} {w9 : Nat} {k9 : Nat} {h9 : Nat} {fe_ : Nat → Int32} {j_1 : Nat} {j_5 : Nat} {mxn_9 : Nat} {fen__9 : Nat → Int32} {r_9 : Int32} (hM : okM fs w9 k9 h9) (hmx : mx ≤ 16) (hj_1 : j_1 < k9) (hkn1 : 1 ≤ k9) (hw1 : 1 ≤ w9) (h01 : ¬ fs 0 = 0) (f_5_1_0 : (¬ (((nI j_5)).toInt64 < 0 ∨ 1 < ((nI j_5)).toInt64))) (q_5 : ¬ ((nI j_5) < 0 ∨ 1 < (nI j_5))) (hj_5 : j_5 ≤ 1) (c_8 : ¬ (j_5 = 0)) (hF_9_0 : mxn_9 ≤ 16) (hF_9_1 : (mkM fs j_1 (0, fe_)).2 = (mxn_9, fen__9)) (h_9 : r_9 = ((mkM fs j_1 (0, fe_)).1)) : fen__9 = (n_ask (m38 fs) (nI j_1) (nI j_5) (mx, fe_)).2 := by
  have h9 : ∀ (j : Nat) (x : Int32) (s : T16), j < 6 → akM (m38 fs) j x s = akM fs j x s := fun j x s a => akM_c a
  first
  | omega
  | exact (askM_1 hM hj_1 hj_5 c_8 (by assumption) (by assumption)).1
  | exact (askM_1 hM hj_1 hj_5 c_8 (by assumption) (by assumption)).2.1
  | exact (askM_1 hM hj_1 hj_5 c_8 (by assumption) (by assumption)).2.2
  | exact (askM_0 hM hj_1 c_8 (by assumption) (by assumption)).1
  | exact (askM_0 hM hj_1 c_8 (by assumption) (by assumption)).2.1
  | exact (askM_0 hM hj_1 c_8 (by assumption) (by assumption)).2.2
  | (have g3 := hM.2.1
     have g6 := hM.2.2.2.2.1
     simp only [a_ask, n_ask, akM, mm0, mm1, mm2, mm3, mm4, mm5, mm6, mm7] at *
     grind [nI_clamp, nI_pos, nI_ge])
theorem lf_X8_ask_9 {mx : Nat} {fs : Nat → Int32} {w9 : Nat} {k9 : Nat} {h9 : Nat} {fe_ : Nat → Int32} {j_1 : Nat} {j_5 : Nat} {mxn_9 : Nat} {fen__9 : Nat → Int32} {r_9 : Int32} (hM : okM fs w9 k9 h9) (hmx : mx ≤ 16) (hj_1 : j_1 < k9) (hkn1 : 1 ≤ k9) (hw1 : 1 ≤ w9) (h01 : ¬ fs 0 = 0) (f_5_1_0 : (¬ (((nI j_5)).toInt64 < 0 ∨ 1 < ((nI j_5)).toInt64))) (q_5 : ¬ ((nI j_5) < 0 ∨ 1 < (nI j_5))) (hj_5 : j_5 ≤ 1) (c_8 : ¬ (j_5 = 0)) (hF_9_0 : mxn_9 ≤ 16) (hF_9_1 : (mkM fs j_1 (0, fe_)).2 = (mxn_9, fen__9)) (h_9 : r_9 = ((mkM fs j_1 (0, fe_)).1)) : r_9 = (a_ask (m38 fs) (nI j_1) (nI j_5) (mx, fe_)) := by
  have h9 : ∀ (j : Nat) (x : Int32) (s : T16), j < 6 → akM (m38 fs) j x s = akM fs j x s := fun j x s a => akM_c a
  first
  | omega
  | exact (askM_1 hM hj_1 hj_5 c_8 (by assumption) (by assumption)).1
  | exact (askM_1 hM hj_1 hj_5 c_8 (by assumption) (by assumption)).2.1
  | exact (askM_1 hM hj_1 hj_5 c_8 (by assumption) (by assumption)).2.2
  | exact (askM_0 hM hj_1 c_8 (by assumption) (by assumption)).1
  | exact (askM_0 hM hj_1 c_8 (by assumption) (by assumption)).2.1
  | exact (askM_0 hM hj_1 c_8 (by assumption) (by assumption)).2.2
  | (have g3 := hM.2.1
     have g6 := hM.2.2.2.2.1
     simp only [a_ask, n_ask, akM, mm0, mm1, mm2, mm3, mm4, mm5, mm6, mm7] at *
     grind [nI_clamp, nI_pos, nI_ge])
theorem lf_X8_ask_10 {mx : Nat} {fs : Nat → Int32} {w9 : Nat} {k9 : Nat} {h9 : Nat} {fe_ : Nat → Int32} {j_1 : Nat} {j_5 : Nat} {mxn_10 : Nat} {fen__10 : Nat → Int32} {r_10 : Int32} (hM : okM fs w9 k9 h9) (hmx : mx ≤ 16) (hj_1 : j_1 < k9) (hkn1 : 1 ≤ k9) (hw1 : 1 ≤ w9) (h01 : ¬ fs 0 = 0) (f_5_1_0 : (¬ (((nI j_5)).toInt64 < 0 ∨ 1 < ((nI j_5)).toInt64))) (q_5 : ¬ ((nI j_5) < 0 ∨ 1 < (nI j_5))) (hj_5 : j_5 ≤ 1) (c_8 : j_5 = 0) (hF_10_0 : mxn_10 ≤ 16) (hF_10_1 : (szM fs j_1 (0, fe_)).2 = (mxn_10, fen__10)) (h_10 : r_10 = ((szM fs j_1 (0, fe_)).1)) : mxn_10 = (n_ask (m38 fs) (nI j_1) (nI j_5) (mx, fe_)).1 := by
  have h9 : ∀ (j : Nat) (x : Int32) (s : T16), j < 6 → akM (m38 fs) j x s = akM fs j x s := fun j x s a => akM_c a
  first
  | omega
  | exact (askM_1 hM hj_1 hj_5 c_8 (by assumption) (by assumption)).1
  | exact (askM_1 hM hj_1 hj_5 c_8 (by assumption) (by assumption)).2.1
  | exact (askM_1 hM hj_1 hj_5 c_8 (by assumption) (by assumption)).2.2
  | exact (askM_0 hM hj_1 c_8 (by assumption) (by assumption)).1
  | exact (askM_0 hM hj_1 c_8 (by assumption) (by assumption)).2.1
  | exact (askM_0 hM hj_1 c_8 (by assumption) (by assumption)).2.2
  | (have g3 := hM.2.1
     have g6 := hM.2.2.2.2.1
     simp only [a_ask, n_ask, akM, mm0, mm1, mm2, mm3, mm4, mm5, mm6, mm7] at *
     grind [nI_clamp, nI_pos, nI_ge])
theorem lf_X8_ask_11 {mx : Nat} {fs : Nat → Int32} {w9 : Nat} {k9 : Nat} {h9 : Nat} {fe_ : Nat → Int32} {j_1 : Nat} {j_5 : Nat} {mxn_10 : Nat} {fen__10 : Nat → Int32} {r_10 : Int32} (hM : okM fs w9 k9 h9) (hmx : mx ≤ 16) (hj_1 : j_1 < k9) (hkn1 : 1 ≤ k9) (hw1 : 1 ≤ w9) (h01 : ¬ fs 0 = 0) (f_5_1_0 : (¬ (((nI j_5)).toInt64 < 0 ∨ 1 < ((nI j_5)).toInt64))) (q_5 : ¬ ((nI j_5) < 0 ∨ 1 < (nI j_5))) (hj_5 : j_5 ≤ 1) (c_8 : j_5 = 0) (hF_10_0 : mxn_10 ≤ 16) (hF_10_1 : (szM fs j_1 (0, fe_)).2 = (mxn_10, fen__10)) (h_10 : r_10 = ((szM fs j_1 (0, fe_)).1)) : fen__10 = (n_ask (m38 fs) (nI j_1) (nI j_5) (mx, fe_)).2 := by
  have h9 : ∀ (j : Nat) (x : Int32) (s : T16), j < 6 → akM (m38 fs) j x s = akM fs j x s := fun j x s a => akM_c a
  first
  | omega
  | exact (askM_1 hM hj_1 hj_5 c_8 (by assumption) (by assumption)).1
  | exact (askM_1 hM hj_1 hj_5 c_8 (by assumption) (by assumption)).2.1
  | exact (askM_1 hM hj_1 hj_5 c_8 (by assumption) (by assumption)).2.2
  | exact (askM_0 hM hj_1 c_8 (by assumption) (by assumption)).1
  | exact (askM_0 hM hj_1 c_8 (by assumption) (by assumption)).2.1
  | exact (askM_0 hM hj_1 c_8 (by assumption) (by assumption)).2.2
  | (have g3 := hM.2.1
     have g6 := hM.2.2.2.2.1
     simp only [a_ask, n_ask, akM, mm0, mm1, mm2, mm3, mm4, mm5, mm6, mm7] at *
     grind [nI_clamp, nI_pos, nI_ge])
theorem lf_X8_ask_12 {mx : Nat} {fs : Nat → Int32} {w9 : Nat} {k9 : Nat} {h9 : Nat} {fe_ : Nat → Int32} {j_1 : Nat} {j_5 : Nat} {mxn_10 : Nat} {fen__10 : Nat → Int32} {r_10 : Int32} (hM : okM fs w9 k9 h9) (hmx : mx ≤ 16) (hj_1 : j_1 < k9) (hkn1 : 1 ≤ k9) (hw1 : 1 ≤ w9) (h01 : ¬ fs 0 = 0) (f_5_1_0 : (¬ (((nI j_5)).toInt64 < 0 ∨ 1 < ((nI j_5)).toInt64))) (q_5 : ¬ ((nI j_5) < 0 ∨ 1 < (nI j_5))) (hj_5 : j_5 ≤ 1) (c_8 : j_5 = 0) (hF_10_0 : mxn_10 ≤ 16) (hF_10_1 : (szM fs j_1 (0, fe_)).2 = (mxn_10, fen__10)) (h_10 : r_10 = ((szM fs j_1 (0, fe_)).1)) : r_10 = (a_ask (m38 fs) (nI j_1) (nI j_5) (mx, fe_)) := by
  have h9 : ∀ (j : Nat) (x : Int32) (s : T16), j < 6 → akM (m38 fs) j x s = akM fs j x s := fun j x s a => akM_c a
  first
  | omega
  | exact (askM_1 hM hj_1 hj_5 c_8 (by assumption) (by assumption)).1
  | exact (askM_1 hM hj_1 hj_5 c_8 (by assumption) (by assumption)).2.1
  | exact (askM_1 hM hj_1 hj_5 c_8 (by assumption) (by assumption)).2.2
  | exact (askM_0 hM hj_1 c_8 (by assumption) (by assumption)).1
  | exact (askM_0 hM hj_1 c_8 (by assumption) (by assumption)).2.1
  | exact (askM_0 hM hj_1 c_8 (by assumption) (by assumption)).2.2
  | (have g3 := hM.2.1
     have g6 := hM.2.2.2.2.1
     simp only [a_ask, n_ask, akM, mm0, mm1, mm2, mm3, mm4, mm5, mm6, mm7] at *
     grind [nI_clamp, nI_pos, nI_ge])
set_option maxHeartbeats 4000000 in
set_option maxRecDepth 100000 in
theorem r_X8_ask (l : Launch) (dC : Nat → ClassId) (dI : Nat → Nat → Nat) (cI cZ cL cJ : ClassId) (sz : Nat) (mo : Nat) (m_la : Nat) (m_sz : Nat) (m_it : Nat) (m_st : Nat) (m_mv : Nat) (m_tp : Nat) (m_rd : Nat) (m_ac : Nat) (m_as : Nat) (m_wo : Nat) (m_ik : Nat) (m_ke : Nat) (m_tr : Nat) (ms : Int32) (mt : Int32) (ml : Int32) (mk : Int32) (mv : Int32) (mb : Int32) (mw : Int32) (mz : Nat) (mp : Nat) (ma : Nat) (mx : Nat) (fs : Nat → Int32) (w9 : Nat) (k9 : Nat) (h9 : Nat) (fe_ : Nat → Int32) (a0 : Int32) (a1 : Int32) (hM : okM fs w9 k9 h9) (hmx : mx ≤ 16) : Met l yX8_ask wsX8_ask ({ frames := 7, cells := 0, slots := 0, locals := 152 }) (va_Pc [.ref mo, .int a0, .int a1] (fun U => U.heap.size = sz ∧ va_P (dC, dI) vwCl [(xo_8_rrriirrriiiiiiirrirrrrri mo m_la m_sz m_it ms mt m_st m_mv m_tp (nI mz) ml (nI mp) mk mv mb mw m_rd m_ac (nI ma) m_as m_wo m_ik m_ke m_tr (nI mx)), (xI m_st cI 38 fs), (xI m_tr cI 16 fe_)] U.heap ∧ va_K (dC, dI) vwCl [(cI, .int), (cZ, .boolean), (cL, .object RX3), (cJ, .array .int)] U ∧ va_D (fun _ => True) [(xo_8_rrriirrriiiiiiirrirrrrri mo m_la m_sz m_it ms mt m_st m_mv m_tp (nI mz) ml (nI mp) mk mv mb mw m_rd m_ac (nI ma) m_as m_wo m_ik m_ke m_tr (nI mx)), (xI m_st cI 38 fs), (xI m_tr cI 16 fe_)])) (va_Qi (fun r (_ : Unit) => r = (a_ask (m38 fs) a0 a1 (mx, fe_))) (fun (_ : Unit) t => ∃ (mxn : Nat) (fen_ : Nat → Int32), va_P (dC, dI) vwCl [(xo_8_rrriirrriiiiiiirrirrrrri mo m_la m_sz m_it ms mt m_st m_mv m_tp (nI mz) ml (nI mp) mk mv mb mw m_rd m_ac (nI ma) m_as m_wo m_ik m_ke m_tr (nI mxn)), (xI m_st cI 38 fs), (xI m_tr cI 16 fen_)] t.heap ∧ va_D (va_A [(xo_8_rrriirrriiiiiiirrirrrrri mo m_la m_sz m_it ms mt m_st m_mv m_tp (nI mz) ml (nI mp) mk mv mb mw m_rd m_ac (nI ma) m_as m_wo m_ik m_ke m_tr (nI mx)), (xI m_st cI 38 fs), (xI m_tr cI 16 fe_)] sz) [(xo_8_rrriirrriiiiiiirrirrrrri mo m_la m_sz m_it ms mt m_st m_mv m_tp (nI mz) ml (nI mp) mk mv mb mw m_rd m_ac (nI ma) m_as m_wo m_ik m_ke m_tr (nI mxn)), (xI m_st cI 38 fs), (xI m_tr cI 16 fen_)] ∧ mxn ≤ 16 ∧ mxn = (n_ask (m38 fs) a0 a1 (mx, fe_)).1 ∧ fen_ = (n_ask (m38 fs) a0 a1 (mx, fe_)).2) (va_A [(xo_8_rrriirrriiiiiiirrirrrrri mo m_la m_sz m_it ms mt m_st m_mv m_tp (nI mz) ml (nI mp) mk mv mb mw m_rd m_ac (nI ma) m_as m_wo m_ik m_ke m_tr (nI mx)), (xI m_st cI 38 fs), (xI m_tr cI 16 fe_)] sz)) 0 0 (va_A [(xo_8_rrriirrriiiiiiirrirrrrri mo m_la m_sz m_it ms mt m_st m_mv m_tp (nI mz) ml (nI mp) mk mv mb mw m_rd m_ac (nI ma) m_as m_wo m_ik m_ke m_tr (nI mx)), (xI m_st cI 38 fs), (xI m_tr cI 16 fe_)] sz) := by
  refine Met.ofW (cc := cX8_ask) (maxL := 3) (ret := (some .int)) (by decide) rfl ?_
  intro p e s m args below meth c s₁ B hml hv
  obtain ⟨rfl, hsz, hP, hK, hD0⟩ := hv
  have hx := B.exec
  have hb := B.bytes
  have hr := B.returns
  have hts := atoms_spec (ws := wsX8_ask) B.pre
  have hown : s.vm.findClass RX8 = some m.cls := findClass_of_methodNamed B.named
  have hlocks := B.notSynchronized
  subst hsz
  have hD := hD0.self (sz := s.heap.size)
  generalize hAe : va_A [(xo_8_rrriirrriiiiiiirrirrrrri mo m_la m_sz m_it ms mt m_st m_mv m_tp (nI mz) ml (nI mp) mk mv mb mw m_rd m_ac (nI ma) m_as m_wo m_ik m_ke m_tr (nI mx)), (xI m_st cI 38 fs), (xI m_tr cI 16 fe_)] s.heap.size = A at hD ⊢
  have hA : ∀ q : Nat, s.heap.size ≤ q → A q := fun q h => by rw [← hAe]; exact Or.inr h
  have hS : va_S A s.heap s.heap [] := va_S.rf
  have hP : va_P (dC, dI) vwCl [(xo_8_rrriirrriiiiiiirrirrrrri mo m_la m_sz m_it ms mt m_st m_mv m_tp (nI mz) ml (nI mp) mk mv mb mw m_rd m_ac (nI ma) m_as m_wo m_ik m_ke m_tr (nI mx)), (xI m_st cI 38 fs), (xI m_tr cI 16 fe_)] s.heap := hP
  have hl := lv_entry ([.ref mo, .int a0, .int a1]) (n := 3) (Nat.le_of_ble_eq_true rfl)
  rw [lg_entry_eq]
  generalize (lg_sl ([.ref mo, .int a0, .int a1]) ++ List.replicate (3 - (lg_sl ([.ref mo, .int a0, .int a1])).length) Slot.unset).toArray = ls at hl ⊢
  have hl : lv_has ls 3 [(0, .ref mo), (1, .int a0), (2, .int a1)] := hl
  have hk6 := hM.2.2.2.2.1
  have hw6 := hM.2.2.2.1
  refine lv_aload_n hx hb dX8_ask_0 rfl (lv_at hl 0 rfl) ?_
  refine lv_iload_n hx hb dX8_ask_1 rfl (lv_at hl 1 rfl) ?_
  have hPc_1 := hP.sub (ws' := [(xo_8_rrriirrriiiiiiirrirrrrri mo m_la m_sz m_it ms mt m_st m_mv m_tp (nI mz) ml (nI mp) mk mv mb mw m_rd m_ac (nI ma) m_as m_wo m_ik m_ke m_tr (nI mx)), (xI m_st cI 38 fs)]) [0, 1] rfl
  refine vp_callSi (W.runV (As := [.int a0]) (rest := []) ⟨hx, hb, hml, hown, hts⟩ (r_X8_isSound l dC dI cI cZ cL cJ mo m_la m_sz m_it m_st m_mv m_tp m_rd m_ac m_as m_wo m_ik m_ke m_tr ms mt ml mk mv mb mw mz mp ma mx fs w9 k9 h9 a0 (hM)) (cwV 1 hts gX8_ask_X8_isSound rfl rfl rfl (by decide +kernel) ⟨Nat.le_of_ble_eq_true rfl, Nat.le_of_ble_eq_true rfl⟩) (pvP 8 0 hK hP rfl rfl hPc_1) rfl rfl hl.1 rfl (lv_room (Nat.le_of_ble_eq_true rfl)) dX8_ask_2 ⟨Nat.le_of_ble_eq_true rfl, Nat.le_of_ble_eq_true rfl⟩) (fun r_1 h_1 => ?_)
  rcases h_1 with ⟨h_1, f_1_0_0⟩ | ⟨h_1, f_1_1_0⟩
  · subst h_1
    refine lv_if_eq (tgt := 18) hx hb dX8_ask_5 (by decide) (fun _ => ?_) (fun c_ => absurd (by decide) c_)
    refine lv_ldc (own := RX8) (v := (-1000001)) hx hb hown (hts _ mx_X8_ask_1) dX8_ask_18 ?_
    have hX9 := cut2 (wc := [(xo_8_rrriirrriiiiiiirrirrrrri mo m_la m_sz m_it ms mt m_st m_mv m_tp (nI mz) ml (nI mp) mk mv mb mw m_rd m_ac (nI ma) m_as m_wo m_ik m_ke m_tr (nI mx)), (xI m_st cI 38 fs), (xI m_tr cI 16 fe_)]) hP hD [0, 1, 2] (by decide +kernel) rfl
    exact W.iret (v := (-1000001)) hx hb hr (fun t ht hW => ⟨⟨(-1000001), (), rfl, (lf_X8_ask_3 hM hmx f_1_0_0), ⟨mx, fe_, va_Ht ht hX9.1, hX9.2, (by omega), (lf_X8_ask_1 hM hmx f_1_0_0), (lf_X8_ask_2 hM hmx f_1_0_0)⟩⟩, hS.F ht⟩) hS.2.2 dX8_ask_20
  · subst h_1
    obtain ⟨j_1, hj_1, rfl⟩ := vp_in_of f_1_1_0 (by omega)
    have hkn1 : 1 ≤ k9 := by omega
    have hw1 := hM.2.2.2.2.2.1.mp hkn1
    have h01 : ¬ fs 0 = 0 := cell_nz hM hkn1
    refine lv_if_eq (tgt := 18) hx hb dX8_ask_5 (by decide) (fun c_ => absurd c_ (by decide)) (fun _ => ?_)
    refine lv_iload_n hx hb dX8_ask_8 rfl (lv_at hl 2 rfl) ?_
    refine lv_i2l hx hb dX8_ask_9 rfl ?_
    refine lv_lconst (v := 0) hx hb dX8_ask_10 (by decide) ?_
    refine lv_lconst (v := 1) hx hb dX8_ask_11 (by decide) ?_
    have hPc_5 := hP.sub (ws' := []) [] rfl
    refine vp_callSi (W.runS (As := [.long (a1).toInt64, .long 0, .long 1]) (rest := []) ⟨hx, hb, hml, hown, hts⟩ (r_X8_in l dC dI cI cZ cL cJ ((a1).toInt64) 0 1 ) (va_cwS 3 hts gX8_ask_X8_in rfl rfl rfl (by decide +kernel) ⟨Nat.le_of_ble_eq_true rfl, Nat.le_of_ble_eq_true rfl⟩) (psP hK hPc_5) rfl rfl hl.1 rfl (lv_room (Nat.le_of_ble_eq_true rfl)) dX8_ask_12 ⟨Nat.le_of_ble_eq_true rfl, Nat.le_of_ble_eq_true rfl⟩) (fun r_5 h_5 => ?_)
    rcases h_5 with ⟨h_5, f_5_0_0⟩ | ⟨h_5, f_5_1_0⟩
    · subst h_5
      have q_5 : (a1 < 0 ∨ 1 < a1) := (in32 (x := a1) (l := 0) (u := 1) (by decide) (by decide)).mp f_5_0_0
      refine lv_if_ne (tgt := 21) hx hb dX8_ask_15 (by decide) (fun c_ => absurd (by decide) c_) (fun _ => ?_)
      refine lv_ldc (own := RX8) (v := (-1000001)) hx hb hown (hts _ mx_X8_ask_1) dX8_ask_18 ?_
      have hX9 := cut2 (wc := [(xo_8_rrriirrriiiiiiirrirrrrri mo m_la m_sz m_it ms mt m_st m_mv m_tp (nI mz) ml (nI mp) mk mv mb mw m_rd m_ac (nI ma) m_as m_wo m_ik m_ke m_tr (nI mx)), (xI m_st cI 38 fs), (xI m_tr cI 16 fe_)]) hP hD [0, 1, 2] (by decide +kernel) rfl
      exact W.iret (v := (-1000001)) hx hb hr (fun t ht hW => ⟨⟨(-1000001), (), rfl, (lf_X8_ask_6 hM hmx hj_1 hkn1 hw1 h01 f_5_0_0 q_5), ⟨mx, fe_, va_Ht ht hX9.1, hX9.2, (by omega), (lf_X8_ask_4 hM hmx hj_1 hkn1 hw1 h01 f_5_0_0 q_5), (lf_X8_ask_5 hM hmx hj_1 hkn1 hw1 h01 f_5_0_0 q_5)⟩⟩, hS.F ht⟩) hS.2.2 dX8_ask_20
    · subst h_5
      have q_5 : ¬ (a1 < 0 ∨ 1 < a1) := fun q_ => f_5_1_0 ((in32 (x := a1) (l := 0) (u := 1) (by decide) (by decide)).mpr q_)
      obtain ⟨j_5, hj_5, hl_5, rfl⟩ := in64 (lo := 0) (n := 1) rfl rfl (by decide) f_5_1_0
      refine lv_if_ne (tgt := 21) hx hb dX8_ask_15 (by decide) (fun _ => ?_) (fun c_ => absurd c_ (by decide))
      refine lv_aload_n hx hb dX8_ask_21 rfl (lv_at hl 0 rfl) ?_
      refine lv_iconst (v := 0) hx hb dX8_ask_22 (by decide) ?_
      refine va_put (D := (dC, dI)) (ci := 8) (v := .int 0) (ty := .int) (C := RX8) (T := TX8) (N := 24) hx hb hts i_X8_ask_X8 tyX8 tyX8_ok nmX8 hown hK hP hD hS 0 rfl rfl 23 (by decide) (hts _ mx_X8_ask_2) (fun _ h9 => h9) rfl (by decide +kernel) rfl rfl (Nat.le_of_ble_eq_true rfl) dX8_ask_23 (fun H locs hP hD hS => ?_)
      have hP : va_P (dC, dI) vwCl [(xo_8_rrriirrriiiiiiirrirrrrri mo m_la m_sz m_it ms mt m_st m_mv m_tp (nI mz) ml (nI mp) mk mv mb mw m_rd m_ac (nI ma) m_as m_wo m_ik m_ke m_tr 0), (xI m_st cI 38 fs), (xI m_tr cI 16 fe_)] H := hP
      have hD := dto hP hD
      refine lv_iload_n hx hb dX8_ask_26 rfl (lv_at hl 2 rfl) ?_
      refine lv_if_ne (tgt := 38) hx hb dX8_ask_27 (by decide) (fun c_8 => ?_) (fun c_8 => ?_)
      · have c_8 : ¬ (j_5 = 0) := fun q_ => c_8 ((nI_eq (a := j_5) (b := 0) (by omega) (by omega)).mpr q_)
        refine lv_aload_n hx hb dX8_ask_38 rfl (lv_at hl 0 rfl) ?_
        refine lv_iload_n hx hb dX8_ask_39 rfl (lv_at hl 1 rfl) ?_
        have hc_9 := cutW (wc := [(xo_8_rrriirrriiiiiiirrirrrrri mo m_la m_sz m_it ms mt m_st m_mv m_tp (nI mz) ml (nI mp) mk mv mb mw m_rd m_ac (nI ma) m_as m_wo m_ik m_ke m_tr (nI 0)), (xI m_st cI 38 fs), (xI m_tr cI 16 fe_)]) hP hD hS hA [0, 1, 2] (by decide +kernel) rfl
        refine va_calli (va_runV (As := [.int (nI j_1)]) (rest := []) ⟨hx, hb, hml, hown, hts⟩ (r_X8_markOf l dC dI cI cZ cL cJ H.size mo m_la m_sz m_it m_st m_mv m_tp m_rd m_ac m_as m_wo m_ik m_ke m_tr ms mt ml mk mv mb mw mz mp ma 0 fs fe_ j_1 (by omega) (by omega)) (cwV 1 hts gX8_ask_X8_markOf rfl rfl rfl (by decide +kernel) ⟨Nat.le_of_ble_eq_true rfl, Nat.le_of_ble_eq_true rfl⟩) (pvW 8 0 hK hP rfl rfl hc_9) rfl rfl hl.1 rfl (lv_room (Nat.le_of_ble_eq_true rfl)) dX8_ask_40 ⟨Nat.le_of_ble_eq_true rfl, Nat.le_of_ble_eq_true rfl⟩) hS (fun q _ h => hc_9.2.2 q h) hc_9.2.2 (fun r_9 u_9 t_9 H1 locs ht hvm h_9 hB hz1 hk1 hS => ?_)
        refine xl_2_4 hB (fun mxn_9 fen__9 hP1 hD1 hF_9_0 hF_9_1 => ?_)
        clear hB
        rw [ht] at hP1
        obtain ⟨hP, hD⟩ := va_join (wr := []) (w1 := [(xo_8_rrriirrriiiiiiirrirrrrri mo m_la m_sz m_it ms mt m_st m_mv m_tp (nI mz) ml (nI mp) mk mv mb mw m_rd m_ac (nI ma) m_as m_wo m_ik m_ke m_tr (nI mxn_9)), (xI m_st cI 38 fs), (xI m_tr cI 16 fen__9)]) hP hD [0, 1, 2] [] rfl rfl (by decide +kernel) (by decide +kernel) hk1 hc_9.2.2 hP1 hD1
        generalize H1 = H at hP hS ⊢
        have hP : va_P (dC, dI) vwCl [(xo_8_rrriirrriiiiiiirrirrrrri mo m_la m_sz m_it ms mt m_st m_mv m_tp (nI mz) ml (nI mp) mk mv mb mw m_rd m_ac (nI ma) m_as m_wo m_ik m_ke m_tr (nI mxn_9)), (xI m_st cI 38 fs), (xI m_tr cI 16 fen__9)] H := hP
        have hD := dto hP hD
        have hX9 := cut2 (wc := [(xo_8_rrriirrriiiiiiirrirrrrri mo m_la m_sz m_it ms mt m_st m_mv m_tp (nI mz) ml (nI mp) mk mv mb mw m_rd m_ac (nI ma) m_as m_wo m_ik m_ke m_tr (nI mxn_9)), (xI m_st cI 38 fs), (xI m_tr cI 16 fen__9)]) hP hD [0, 1, 2] (by decide +kernel) rfl
        exact W.iret (v := r_9) hx hb hr (fun t ht hW => ⟨⟨r_9, (), rfl, (lf_X8_ask_9 hM hmx hj_1 hkn1 hw1 h01 f_5_1_0 q_5 hj_5 c_8 hF_9_0 hF_9_1 h_9), ⟨mxn_9, fen__9, va_Ht ht hX9.1, hX9.2, (by omega), (lf_X8_ask_7 hM hmx hj_1 hkn1 hw1 h01 f_5_1_0 q_5 hj_5 c_8 hF_9_0 hF_9_1 h_9), (lf_X8_ask_8 hM hmx hj_1 hkn1 hw1 h01 f_5_1_0 q_5 hj_5 c_8 hF_9_0 hF_9_1 h_9)⟩⟩, hS.F ht⟩) hS.2.2 dX8_ask_43
      · have c_8 : j_5 = 0 := (nI_eq (a := j_5) (b := 0) (by omega) (by omega)).mp c_8
        refine lv_aload_n hx hb dX8_ask_30 rfl (lv_at hl 0 rfl) ?_
        refine lv_iload_n hx hb dX8_ask_31 rfl (lv_at hl 1 rfl) ?_
        have hc_10 := cutW (wc := [(xo_8_rrriirrriiiiiiirrirrrrri mo m_la m_sz m_it ms mt m_st m_mv m_tp (nI mz) ml (nI mp) mk mv mb mw m_rd m_ac (nI ma) m_as m_wo m_ik m_ke m_tr (nI 0)), (xI m_st cI 38 fs), (xI m_tr cI 16 fe_)]) hP hD hS hA [0, 1, 2] (by decide +kernel) rfl
        refine va_calli (va_runV (As := [.int (nI j_1)]) (rest := []) ⟨hx, hb, hml, hown, hts⟩ (r_X8_sizeOf l dC dI cI cZ cL cJ H.size mo m_la m_sz m_it m_st m_mv m_tp m_rd m_ac m_as m_wo m_ik m_ke m_tr ms mt ml mk mv mb mw mz mp ma 0 fs fe_ j_1 (by omega) (by omega)) (cwV 1 hts gX8_ask_X8_sizeOf rfl rfl rfl (by decide +kernel) ⟨Nat.le_of_ble_eq_true rfl, Nat.le_of_ble_eq_true rfl⟩) (pvW 8 0 hK hP rfl rfl hc_10) rfl rfl hl.1 rfl (lv_room (Nat.le_of_ble_eq_true rfl)) dX8_ask_32 ⟨Nat.le_of_ble_eq_true rfl, Nat.le_of_ble_eq_true rfl⟩) hS (fun q _ h => hc_10.2.2 q h) hc_10.2.2 (fun r_10 u_10 t_10 H1 locs ht hvm h_10 hB hz1 hk1 hS => ?_)
        refine xl_2_4 hB (fun mxn_10 fen__10 hP1 hD1 hF_10_0 hF_10_1 => ?_)
        clear hB
        rw [ht] at hP1
        obtain ⟨hP, hD⟩ := va_join (wr := []) (w1 := [(xo_8_rrriirrriiiiiiirrirrrrri mo m_la m_sz m_it ms mt m_st m_mv m_tp (nI mz) ml (nI mp) mk mv mb mw m_rd m_ac (nI ma) m_as m_wo m_ik m_ke m_tr (nI mxn_10)), (xI m_st cI 38 fs), (xI m_tr cI 16 fen__10)]) hP hD [0, 1, 2] [] rfl rfl (by decide +kernel) (by decide +kernel) hk1 hc_10.2.2 hP1 hD1
        generalize H1 = H at hP hS ⊢
        have hP : va_P (dC, dI) vwCl [(xo_8_rrriirrriiiiiiirrirrrrri mo m_la m_sz m_it ms mt m_st m_mv m_tp (nI mz) ml (nI mp) mk mv mb mw m_rd m_ac (nI ma) m_as m_wo m_ik m_ke m_tr (nI mxn_10)), (xI m_st cI 38 fs), (xI m_tr cI 16 fen__10)] H := hP
        have hD := dto hP hD
        refine lv_goto (tgt := 43) hx hb dX8_ask_35 (by decide) ?_
        have hX9 := cut2 (wc := [(xo_8_rrriirrriiiiiiirrirrrrri mo m_la m_sz m_it ms mt m_st m_mv m_tp (nI mz) ml (nI mp) mk mv mb mw m_rd m_ac (nI ma) m_as m_wo m_ik m_ke m_tr (nI mxn_10)), (xI m_st cI 38 fs), (xI m_tr cI 16 fen__10)]) hP hD [0, 1, 2] (by decide +kernel) rfl
        exact W.iret (v := r_10) hx hb hr (fun t ht hW => ⟨⟨r_10, (), rfl, (lf_X8_ask_12 hM hmx hj_1 hkn1 hw1 h01 f_5_1_0 q_5 hj_5 c_8 hF_10_0 hF_10_1 h_10), ⟨mxn_10, fen__10, va_Ht ht hX9.1, hX9.2, (by omega), (lf_X8_ask_10 hM hmx hj_1 hkn1 hw1 h01 f_5_1_0 q_5 hj_5 c_8 hF_10_0 hF_10_1 h_10), (lf_X8_ask_11 hM hmx hj_1 hkn1 hw1 h01 f_5_1_0 q_5 hj_5 c_8 hF_10_0 hF_10_1 h_10)⟩⟩, hS.F ht⟩) hS.2.2 dX8_ask_43
theorem lf_X8_feed_1 {mz : Nat} {a0 : Int32} (hmz : mz ≤ 120) (f_1_0_0 : ((a0).toInt64 < 0 ∨ 255 < (a0).toInt64)) : mz ≤ 120 := by
  first
  | omega
  | (have h9 := feed64 (a := a0); unfold an_fd; grind)
  | (have h9 := feed64 (a := a0); unfold sf_z; grind)
  | (have h9 := feed64 (a := a0); unfold sf_b; grind)
theorem lf_X8_feed_2 {mz : Nat} {a0 : Int32} (hmz : mz ≤ 120) (f_1_0_0 : ((a0).toInt64 < 0 ∨ 255 < (a0).toInt64)) : mz = sf_z mz a0 := by
  first
  | omega
  | (have h9 := feed64 (a := a0); unfold an_fd; grind)
  | (have h9 := feed64 (a := a0); unfold sf_z; grind)
  | (have h9 := feed64 (a := a0); unfold sf_b; grind)
theorem lf_X8_feed_3 {mz : Nat} {ft_ : Nat → Int32} {a0 : Int32} (hmz : mz ≤ 120) (f_1_0_0 : ((a0).toInt64 < 0 ∨ 255 < (a0).toInt64)) : ft_ = sf_b ft_ mz a0 := by
  first
  | omega
  | (have h9 := feed64 (a := a0); unfold an_fd; grind)
  | (have h9 := feed64 (a := a0); unfold sf_z; grind)
  | (have h9 := feed64 (a := a0); unfold sf_b; grind)
theorem lf_X8_feed_4 {mz : Nat} {a0 : Int32} (hmz : mz ≤ 120) (f_1_0_0 : ((a0).toInt64 < 0 ∨ 255 < (a0).toInt64)) : (-1000001) = (an_fd mz a0) := by
  first
  | omega
  | (have h9 := feed64 (a := a0); unfold an_fd; grind)
  | (have h9 := feed64 (a := a0); unfold sf_z; grind)
  | (have h9 := feed64 (a := a0); unfold sf_b; grind)
theorem lf_X8_feed_5 {mz : Nat} {ft_ : Nat → Int32} {a0 : Int32} {g_5 : Nat → Int32} (hmz : mz ≤ 120) (f_1_1_0 : (¬ ((a0).toInt64 < 0 ∨ 255 < (a0).toInt64))) (c_4 : ¬ (mz = 120)) (hu_5 : g_5 = upd ft_ mz a0) : (mz + 1) ≤ 120 := by
  first
  | omega
  | (have h9 := feed64 (a := a0); unfold an_fd; grind)
  | (have h9 := feed64 (a := a0); unfold sf_z; grind)
  | (have h9 := feed64 (a := a0); unfold sf_b; grind)
theorem lf_X8_feed_6 {mz : Nat} {ft_ : Nat → Int32} {a0 : Int32} {g_5 : Nat → Int32} (hmz : mz ≤ 120) (f_1_1_0 : (¬ ((a0).toInt64 < 0 ∨ 255 < (a0).toInt64))) (c_4 : ¬ (mz = 120)) (hu_5 : g_5 = upd ft_ mz a0) : (mz + 1) = sf_z mz a0 := by
  first
  | omega
  | (have h9 := feed64 (a := a0); unfold an_fd; grind)
  | (have h9 := feed64 (a := a0); unfold sf_z; grind)
  | (have h9 := feed64 (a := a0); unfold sf_b; grind)
theorem lf_X8_feed_7 {mz : Nat} {ft_ : Nat → Int32} {a0 : Int32} {g_5 : Nat → Int32} (hmz : mz ≤ 120) (f_1_1_0 : (¬ ((a0).toInt64 < 0 ∨ 255 < (a0).toInt64))) (c_4 : ¬ (mz = 120)) (hu_5 : g_5 = upd ft_ mz a0) : g_5 = sf_b ft_ mz a0 := by
  first
  | omega
  | (have h9 := feed64 (a := a0); unfold an_fd; grind)
  | (have h9 := feed64 (a := a0); unfold sf_z; grind)
  | (have h9 := feed64 (a := a0); unfold sf_b; grind)
theorem lf_X8_feed_8 {mz : Nat} {ft_ : Nat → Int32} {a0 : Int32} {g_5 : Nat → Int32} (hmz : mz ≤ 120) (f_1_1_0 : (¬ ((a0).toInt64 < 0 ∨ 255 < (a0).toInt64))) (c_4 : ¬ (mz = 120)) (hu_5 : g_5 = upd ft_ mz a0) : (nI (mz + 1)) = (an_fd mz a0) := by
  first
  | omega
  | (have h9 := feed64 (a := a0); unfold an_fd; grind)
  | (have h9 := feed64 (a := a0); unfold sf_z; grind)
  | (have h9 := feed64 (a := a0); unfold sf_b; grind)
theorem lf_X8_feed_9 {mz : Nat} {a0 : Int32} (hmz : mz ≤ 120) (f_1_1_0 : (¬ ((a0).toInt64 < 0 ∨ 255 < (a0).toInt64))) (c_4 : mz = 120) : mz ≤ 120 := by
  first
  | omega
  | (have h9 := feed64 (a := a0); unfold an_fd; grind)
  | (have h9 := feed64 (a := a0); unfold sf_z; grind)
  | (have h9 := feed64 (a := a0); unfold sf_b; grind)
theorem lf_X8_feed_10 {mz : Nat} {a0 : Int32} (hmz : mz ≤ 120) (f_1_1_0 : (¬ ((a0).toInt64 < 0 ∨ 255 < (a0).toInt64))) (c_4 : mz = 120) : mz = sf_z mz a0 := by
  first
  | omega
  | (have h9 := feed64 (a := a0); unfold an_fd; grind)
  | (have h9 := feed64 (a := a0); unfold sf_z; grind)
  | (have h9 := feed64 (a := a0); unfold sf_b; grind)
theorem lf_X8_feed_11 {mz : Nat} {ft_ : Nat → Int32} {a0 : Int32} (hmz : mz ≤ 120) (f_1_1_0 : (¬ ((a0).toInt64 < 0 ∨ 255 < (a0).toInt64))) (c_4 : mz = 120) : ft_ = sf_b ft_ mz a0 := by
  first
  | omega
  | (have h9 := feed64 (a := a0); unfold an_fd; grind)
  | (have h9 := feed64 (a := a0); unfold sf_z; grind)
  | (have h9 := feed64 (a := a0); unfold sf_b; grind)
theorem lf_X8_feed_12 {mz : Nat} {a0 : Int32} (hmz : mz ≤ 120) (f_1_1_0 : (¬ ((a0).toInt64 < 0 ∨ 255 < (a0).toInt64))) (c_4 : mz = 120) : (-1000003) = (an_fd mz a0) := by
  first
  | omega
  | (have h9 := feed64 (a := a0); unfold an_fd; grind)
  | (have h9 := feed64 (a := a0); unfold sf_z; grind)
  | (have h9 := feed64 (a := a0); unfold sf_b; grind)
set_option maxHeartbeats 4000000 in
set_option maxRecDepth 100000 in
theorem r_X8_feed (l : Launch) (dC : Nat → ClassId) (dI : Nat → Nat → Nat) (cI cZ cL cJ : ClassId) (sz : Nat) (mo : Nat) (m_la : Nat) (m_sz : Nat) (m_it : Nat) (m_st : Nat) (m_mv : Nat) (m_tp : Nat) (m_rd : Nat) (m_ac : Nat) (m_as : Nat) (m_wo : Nat) (m_ik : Nat) (m_ke : Nat) (m_tr : Nat) (ms : Int32) (mt : Int32) (ml : Int32) (mk : Int32) (mv : Int32) (mb : Int32) (mw : Int32) (mz : Nat) (mp : Nat) (ma : Nat) (mx : Nat) (ft_ : Nat → Int32) (a0 : Int32) (hmz : mz ≤ 120) : Met l yX8_feed wsX8_feed ({ frames := 1, cells := 0, slots := 0, locals := 25 }) (va_Pc [.ref mo, .int a0] (fun U => U.heap.size = sz ∧ va_P (dC, dI) vwCl [(xo_8_rrriirrriiiiiiirrirrrrri mo m_la m_sz m_it ms mt m_st m_mv m_tp (nI mz) ml (nI mp) mk mv mb mw m_rd m_ac (nI ma) m_as m_wo m_ik m_ke m_tr (nI mx)), (xI m_tp cI 120 ft_)] U.heap ∧ va_K (dC, dI) vwCl [(cI, .int), (cZ, .boolean), (cL, .object RX3), (cJ, .array .int)] U ∧ va_D (fun _ => True) [(xo_8_rrriirrriiiiiiirrirrrrri mo m_la m_sz m_it ms mt m_st m_mv m_tp (nI mz) ml (nI mp) mk mv mb mw m_rd m_ac (nI ma) m_as m_wo m_ik m_ke m_tr (nI mx)), (xI m_tp cI 120 ft_)])) (va_Qi (fun r (_ : Unit) => r = (an_fd mz a0)) (fun (_ : Unit) t => ∃ (mzn : Nat) (ftn_ : Nat → Int32), va_P (dC, dI) vwCl [(xo_8_rrriirrriiiiiiirrirrrrri mo m_la m_sz m_it ms mt m_st m_mv m_tp (nI mzn) ml (nI mp) mk mv mb mw m_rd m_ac (nI ma) m_as m_wo m_ik m_ke m_tr (nI mx)), (xI m_tp cI 120 ftn_)] t.heap ∧ va_D (va_A [(xo_8_rrriirrriiiiiiirrirrrrri mo m_la m_sz m_it ms mt m_st m_mv m_tp (nI mz) ml (nI mp) mk mv mb mw m_rd m_ac (nI ma) m_as m_wo m_ik m_ke m_tr (nI mx)), (xI m_tp cI 120 ft_)] sz) [(xo_8_rrriirrriiiiiiirrirrrrri mo m_la m_sz m_it ms mt m_st m_mv m_tp (nI mzn) ml (nI mp) mk mv mb mw m_rd m_ac (nI ma) m_as m_wo m_ik m_ke m_tr (nI mx)), (xI m_tp cI 120 ftn_)] ∧ mzn ≤ 120 ∧ mzn = sf_z mz a0 ∧ ftn_ = sf_b ft_ mz a0) (va_A [(xo_8_rrriirrriiiiiiirrirrrrri mo m_la m_sz m_it ms mt m_st m_mv m_tp (nI mz) ml (nI mp) mk mv mb mw m_rd m_ac (nI ma) m_as m_wo m_ik m_ke m_tr (nI mx)), (xI m_tp cI 120 ft_)] sz)) 0 0 (va_A [(xo_8_rrriirrriiiiiiirrirrrrri mo m_la m_sz m_it ms mt m_st m_mv m_tp (nI mz) ml (nI mp) mk mv mb mw m_rd m_ac (nI ma) m_as m_wo m_ik m_ke m_tr (nI mx)), (xI m_tp cI 120 ft_)] sz) := by
  refine Met.ofW (cc := cX8_feed) (maxL := 2) (ret := (some .int)) (by decide) rfl ?_
  intro p e s m args below meth c s₁ B hml hv
  obtain ⟨rfl, hsz, hP, hK, hD0⟩ := hv
  have hx := B.exec
  have hb := B.bytes
  have hr := B.returns
  have hts := atoms_spec (ws := wsX8_feed) B.pre
  have hown : s.vm.findClass RX8 = some m.cls := findClass_of_methodNamed B.named
  have hlocks := B.notSynchronized
  subst hsz
  have hD := hD0.self (sz := s.heap.size)
  generalize hAe : va_A [(xo_8_rrriirrriiiiiiirrirrrrri mo m_la m_sz m_it ms mt m_st m_mv m_tp (nI mz) ml (nI mp) mk mv mb mw m_rd m_ac (nI ma) m_as m_wo m_ik m_ke m_tr (nI mx)), (xI m_tp cI 120 ft_)] s.heap.size = A at hD ⊢
  have hA : ∀ q : Nat, s.heap.size ≤ q → A q := fun q h => by rw [← hAe]; exact Or.inr h
  have hS : va_S A s.heap s.heap [] := va_S.rf
  have hP : va_P (dC, dI) vwCl [(xo_8_rrriirrriiiiiiirrirrrrri mo m_la m_sz m_it ms mt m_st m_mv m_tp (nI mz) ml (nI mp) mk mv mb mw m_rd m_ac (nI ma) m_as m_wo m_ik m_ke m_tr (nI mx)), (xI m_tp cI 120 ft_)] s.heap := hP
  have hl := lv_entry ([.ref mo, .int a0]) (n := 2) (Nat.le_of_ble_eq_true rfl)
  rw [lg_entry_eq]
  generalize (lg_sl ([.ref mo, .int a0]) ++ List.replicate (2 - (lg_sl ([.ref mo, .int a0])).length) Slot.unset).toArray = ls at hl ⊢
  have hl : lv_has ls 2 [(0, .ref mo), (1, .int a0)] := hl
  refine lv_iload_n hx hb dX8_feed_0 rfl (lv_at hl 1 rfl) ?_
  refine lv_i2l hx hb dX8_feed_1 rfl ?_
  refine lv_lconst (v := 0) hx hb dX8_feed_2 (by decide) ?_
  refine lv_ldc2 (own := RX8) (v := 255) hx hb hown (hts _ mx_X8_feed_1) dX8_feed_3 ?_
  have hPc_1 := hP.sub (ws' := []) [] rfl
  refine vp_callSi (W.runS (As := [.long (a0).toInt64, .long 0, .long 255]) (rest := []) ⟨hx, hb, hml, hown, hts⟩ (r_X8_in l dC dI cI cZ cL cJ ((a0).toInt64) 0 255 ) (va_cwS 3 hts gX8_feed_X8_in rfl rfl rfl (by decide +kernel) ⟨Nat.le_of_ble_eq_true rfl, Nat.le_of_ble_eq_true rfl⟩) (psP hK hPc_1) rfl rfl hl.1 rfl (lv_room (Nat.le_of_ble_eq_true rfl)) dX8_feed_6 ⟨Nat.le_of_ble_eq_true rfl, Nat.le_of_ble_eq_true rfl⟩) (fun r_1 h_1 => ?_)
  rcases h_1 with ⟨h_1, f_1_0_0⟩ | ⟨h_1, f_1_1_0⟩
  · subst h_1
    refine lv_if_ne (tgt := 15) hx hb dX8_feed_9 (by decide) (fun c_ => absurd (by decide) c_) (fun _ => ?_)
    refine lv_ldc (own := RX8) (v := (-1000001)) hx hb hown (hts _ mx_X8_feed_2) dX8_feed_12 ?_
    have hX9 := cut2 (wc := [(xo_8_rrriirrriiiiiiirrirrrrri mo m_la m_sz m_it ms mt m_st m_mv m_tp (nI mz) ml (nI mp) mk mv mb mw m_rd m_ac (nI ma) m_as m_wo m_ik m_ke m_tr (nI mx)), (xI m_tp cI 120 ft_)]) hP hD [0, 1] (by decide +kernel) rfl
    exact W.iret (v := (-1000001)) hx hb hr (fun t ht hW => ⟨⟨(-1000001), (), rfl, (lf_X8_feed_4 hmz f_1_0_0), ⟨mz, ft_, va_Ht ht hX9.1, hX9.2, (lf_X8_feed_1 hmz f_1_0_0), (lf_X8_feed_2 hmz f_1_0_0), (lf_X8_feed_3 hmz f_1_0_0)⟩⟩, hS.F ht⟩) hS.2.2 dX8_feed_14
  · subst h_1
    refine lv_if_ne (tgt := 15) hx hb dX8_feed_9 (by decide) (fun _ => ?_) (fun c_ => absurd c_ (by decide))
    refine lv_aload_n hx hb dX8_feed_15 rfl (lv_at hl 0 rfl) ?_
    refine va_get (D := (dC, dI)) (ci := 8) (v := .int (nI mz)) (C := RX8) (T := TX8) (N := 24) hx hb hts i_X8_feed_X8 hown hK hP 0 rfl rfl 8 (by decide) (hts _ mx_X8_feed_3) (fun _ h9 => h9) rfl dX8_feed_16 ?_
    refine lv_bipush (v := 120) hx hb dX8_feed_19 (by decide) ?_
    refine lv_icmp_ne (tgt := 27) hx hb dX8_feed_21 (by decide) (fun c_4 => ?_) (fun c_4 => ?_)
    · have c_4 : ¬ (mz = 120) := fun q_ => c_4 ((nI_eq (a := mz) (b := 120) (by omega) (by omega)).mpr q_)
      refine lv_aload_n hx hb dX8_feed_27 rfl (lv_at hl 0 rfl) ?_
      refine va_get (D := (dC, dI)) (ci := 8) (v := .ref m_tp) (C := RX8) (T := TX8) (N := 24) hx hb hts i_X8_feed_X8 hown hK hP 0 rfl rfl 7 (by decide) (hts _ mx_X8_feed_5) (fun _ h9 => h9) rfl dX8_feed_28 ?_
      refine lv_aload_n hx hb dX8_feed_31 rfl (lv_at hl 0 rfl) ?_
      refine va_get (D := (dC, dI)) (ci := 8) (v := .int (nI mz)) (C := RX8) (T := TX8) (N := 24) hx hb hts i_X8_feed_X8 hown hK hP 0 rfl rfl 8 (by decide) (hts _ mx_X8_feed_3) (fun _ h9 => h9) rfl dX8_feed_32 ?_
      refine lv_iload_n hx hb dX8_feed_35 rfl (lv_at hl 1 rfl) ?_
      refine va_iast hx hb hK hP hD hS 1 0 rfl rfl (vp_in_nI (by omega) (by omega)) dX8_feed_36 (fun H locs hP hD hS => ?_)
      generalize hg_5 : upd ft_ ((nI mz) : Int32).toNatClampNeg a0 = g_5 at hP hD
      have hu_5 : g_5 = upd ft_ mz a0 := (by rw [← hg_5, nI_clamp (by omega)])
      have hP : va_P (dC, dI) vwCl [(xo_8_rrriirrriiiiiiirrirrrrri mo m_la m_sz m_it ms mt m_st m_mv m_tp (nI mz) ml (nI mp) mk mv mb mw m_rd m_ac (nI ma) m_as m_wo m_ik m_ke m_tr (nI mx)), (xI m_tp cI 120 g_5)] H := hP
      have hD := dto hP hD
      refine lv_aload_n hx hb dX8_feed_37 rfl (lv_at hl 0 rfl) ?_
      refine lv_dup hx hb dX8_feed_38 rfl ?_
      refine va_get (D := (dC, dI)) (ci := 8) (v := .int (nI mz)) (C := RX8) (T := TX8) (N := 24) hx hb hts i_X8_feed_X8 hown hK hP 0 rfl rfl 8 (by decide) (hts _ mx_X8_feed_3) (fun _ h9 => h9) rfl dX8_feed_39 ?_
      refine lv_iconst (v := 1) hx hb dX8_feed_42 (by decide) ?_
      refine lv_iadd hx hb dX8_feed_43 ?_
      refine lv_topi (fun v_6 e_6 => ?_)
      obtain rfl : v_6 = (nI (mz + 1)) := (e_6).trans (nI_add mz 1)
      refine va_put (D := (dC, dI)) (ci := 8) (v := .int (nI (mz + 1))) (ty := .int) (C := RX8) (T := TX8) (N := 24) hx hb hts i_X8_feed_X8 tyX8 tyX8_ok nmX8 hown hK hP hD hS 0 rfl rfl 8 (by decide) (hts _ mx_X8_feed_3) (fun _ h9 => h9) rfl (by decide +kernel) rfl rfl (Nat.le_of_ble_eq_true rfl) dX8_feed_44 (fun H locs hP hD hS => ?_)
      have hP : va_P (dC, dI) vwCl [(xo_8_rrriirrriiiiiiirrirrrrri mo m_la m_sz m_it ms mt m_st m_mv m_tp (nI (mz + 1)) ml (nI mp) mk mv mb mw m_rd m_ac (nI ma) m_as m_wo m_ik m_ke m_tr (nI mx)), (xI m_tp cI 120 g_5)] H := hP
      have hD := dto hP hD
      refine lv_aload_n hx hb dX8_feed_47 rfl (lv_at hl 0 rfl) ?_
      refine va_get (D := (dC, dI)) (ci := 8) (v := .int (nI (mz + 1))) (C := RX8) (T := TX8) (N := 24) hx hb hts i_X8_feed_X8 hown hK hP 0 rfl rfl 8 (by decide) (hts _ mx_X8_feed_3) (fun _ h9 => h9) rfl dX8_feed_48 ?_
      have hX9 := cut2 (wc := [(xo_8_rrriirrriiiiiiirrirrrrri mo m_la m_sz m_it ms mt m_st m_mv m_tp (nI (mz + 1)) ml (nI mp) mk mv mb mw m_rd m_ac (nI ma) m_as m_wo m_ik m_ke m_tr (nI mx)), (xI m_tp cI 120 g_5)]) hP hD [0, 1] (by decide +kernel) rfl
      exact W.iret (v := (nI (mz + 1))) hx hb hr (fun t ht hW => ⟨⟨(nI (mz + 1)), (), rfl, (lf_X8_feed_8 hmz f_1_1_0 c_4 hu_5), ⟨(mz + 1), g_5, va_Ht ht hX9.1, hX9.2, (lf_X8_feed_5 hmz f_1_1_0 c_4 hu_5), (lf_X8_feed_6 hmz f_1_1_0 c_4 hu_5), (lf_X8_feed_7 hmz f_1_1_0 c_4 hu_5)⟩⟩, hS.F ht⟩) hS.2.2 dX8_feed_51
    · have c_4 : mz = 120 := (nI_eq (a := mz) (b := 120) (by omega) (by omega)).mp c_4
      refine lv_ldc (own := RX8) (v := (-1000003)) hx hb hown (hts _ mx_X8_feed_4) dX8_feed_24 ?_
      have hX9 := cut2 (wc := [(xo_8_rrriirrriiiiiiirrirrrrri mo m_la m_sz m_it ms mt m_st m_mv m_tp (nI mz) ml (nI mp) mk mv mb mw m_rd m_ac (nI ma) m_as m_wo m_ik m_ke m_tr (nI mx)), (xI m_tp cI 120 ft_)]) hP hD [0, 1] (by decide +kernel) rfl
      exact W.iret (v := (-1000003)) hx hb hr (fun t ht hW => ⟨⟨(-1000003), (), rfl, (lf_X8_feed_12 hmz f_1_1_0 c_4), ⟨mz, ft_, va_Ht ht hX9.1, hX9.2, (lf_X8_feed_9 hmz f_1_1_0 c_4), (lf_X8_feed_10 hmz f_1_1_0 c_4), (lf_X8_feed_11 hmz f_1_1_0 c_4)⟩⟩, hS.F ht⟩) hS.2.2 dX8_feed_26
theorem lf_X8_row_1 {fn_ : Nat → Int32} {fz : Nat → Int32} {a0 : Int32} (hsz9 : ∀ j : Nat, j < 8 → fz j = -1 ∨ ∃ q : Nat, q ≤ 40 ∧ fz j = nI q) (hln9 : ∀ j : Nat, j < 8 → ¬ fz j = -1 → ¬ fn_ j = -1) (f_1_0_0 : (a0 < 0 ∨ 8 ≤ a0)) : (∀ j : Nat, j < 8 → ¬ fz j = -1 → ¬ fn_ j = -1) := by
  first
  | with_reducible exact fr_ok (by assumption) (bd_m (by assumption)) (by omega) (by assumption)
  | with_reducible exact fr_neg (by assumption) (bd_m (by assumption)) (by assumption) (by assumption) (by assumption)
  | ((with_reducible refine fr_bad ?_); (have h9 := lane64 (a := a1)); grind)
  | ((with_reducible refine (itr_n ?_).symm); (have h9 := lane64 (a := a1)); grind)
  | assumption
  | (have h9 := lane64 (a := a1); unfold sr_l; rw [if_neg (by grind)])
  | (have h9 := lane64 (a := a1); unfold sr_n; rw [if_neg (by grind)])
  | (subst_vars; rw [sr_l_ok (by assumption) (bd_m (by assumption)) (by omega)]; with_reducible exact mbl_up (by omega) (by omega))
  | (subst_vars; rw [sr_n_ok (by assumption) (bd_m (by assumption)) (by omega)]; with_reducible exact mbn_up (by omega) (by omega))
  | (subst_vars; with_reducible exact ln_up hln9 (bd_m (by assumption)))
theorem lf_X8_row_2 {fn_ : Nat → Int32} {fz : Nat → Int32} {a0 : Int32} {a1 : Int32} {a2 : Int32} (hsz9 : ∀ j : Nat, j < 8 → fz j = -1 ∨ ∃ q : Nat, q ≤ 40 ∧ fz j = nI q) (hln9 : ∀ j : Nat, j < 8 → ¬ fz j = -1 → ¬ fn_ j = -1) (f_1_0_0 : (a0 < 0 ∨ 8 ≤ a0)) : mbl fn_ fz = sr_l (mbl fn_ fz) a0 a1 a2 := by
  first
  | with_reducible exact fr_ok (by assumption) (bd_m (by assumption)) (by omega) (by assumption)
  | with_reducible exact fr_neg (by assumption) (bd_m (by assumption)) (by assumption) (by assumption) (by assumption)
  | ((with_reducible refine fr_bad ?_); (have h9 := lane64 (a := a1)); grind)
  | ((with_reducible refine (itr_n ?_).symm); (have h9 := lane64 (a := a1)); grind)
  | assumption
  | (have h9 := lane64 (a := a1); unfold sr_l; rw [if_neg (by grind)])
  | (have h9 := lane64 (a := a1); unfold sr_n; rw [if_neg (by grind)])
  | (subst_vars; rw [sr_l_ok (by assumption) (bd_m (by assumption)) (by omega)]; with_reducible exact mbl_up (by omega) (by omega))
  | (subst_vars; rw [sr_n_ok (by assumption) (bd_m (by assumption)) (by omega)]; with_reducible exact mbn_up (by omega) (by omega))
  | (subst_vars; with_reducible exact ln_up hln9 (bd_m (by assumption)))
theorem lf_X8_row_3 {fn_ : Nat → Int32} {fz : Nat → Int32} {a0 : Int32} {a1 : Int32} {a2 : Int32} (hsz9 : ∀ j : Nat, j < 8 → fz j = -1 ∨ ∃ q : Nat, q ≤ 40 ∧ fz j = nI q) (hln9 : ∀ j : Nat, j < 8 → ¬ fz j = -1 → ¬ fn_ j = -1) (f_1_0_0 : (a0 < 0 ∨ 8 ≤ a0)) : mbn fz = sr_n (mbn fz) a0 a1 a2 := by
  first
  | with_reducible exact fr_ok (by assumption) (bd_m (by assumption)) (by omega) (by assumption)
  | with_reducible exact fr_neg (by assumption) (bd_m (by assumption)) (by assumption) (by assumption) (by assumption)
  | ((with_reducible refine fr_bad ?_); (have h9 := lane64 (a := a1)); grind)
  | ((with_reducible refine (itr_n ?_).symm); (have h9 := lane64 (a := a1)); grind)
  | assumption
  | (have h9 := lane64 (a := a1); unfold sr_l; rw [if_neg (by grind)])
  | (have h9 := lane64 (a := a1); unfold sr_n; rw [if_neg (by grind)])
  | (subst_vars; rw [sr_l_ok (by assumption) (bd_m (by assumption)) (by omega)]; with_reducible exact mbl_up (by omega) (by omega))
  | (subst_vars; rw [sr_n_ok (by assumption) (bd_m (by assumption)) (by omega)]; with_reducible exact mbn_up (by omega) (by omega))
  | (subst_vars; with_reducible exact ln_up hln9 (bd_m (by assumption)))
theorem lf_X8_row_4 {fn_ : Nat → Int32} {fz : Nat → Int32} {fi_ : Nat → Int32} {a0 : Int32} {a1 : Int32} {a2 : Int32} (hsz9 : ∀ j : Nat, j < 8 → fz j = -1 ∨ ∃ q : Nat, q ≤ 40 ∧ fz j = nI q) (hln9 : ∀ j : Nat, j < 8 → ¬ fz j = -1 → ¬ fn_ j = -1) (f_1_0_0 : (a0 < 0 ∨ 8 ≤ a0)) : itM fi_ = n_itr (itM fi_) a0 a1 a2 := by
  first
  | with_reducible exact fr_ok (by assumption) (bd_m (by assumption)) (by omega) (by assumption)
  | with_reducible exact fr_neg (by assumption) (bd_m (by assumption)) (by assumption) (by assumption) (by assumption)
  | ((with_reducible refine fr_bad ?_); (have h9 := lane64 (a := a1)); grind)
  | ((with_reducible refine (itr_n ?_).symm); (have h9 := lane64 (a := a1)); grind)
  | assumption
  | (have h9 := lane64 (a := a1); unfold sr_l; rw [if_neg (by grind)])
  | (have h9 := lane64 (a := a1); unfold sr_n; rw [if_neg (by grind)])
  | (subst_vars; rw [sr_l_ok (by assumption) (bd_m (by assumption)) (by omega)]; with_reducible exact mbl_up (by omega) (by omega))
  | (subst_vars; rw [sr_n_ok (by assumption) (bd_m (by assumption)) (by omega)]; with_reducible exact mbn_up (by omega) (by omega))
  | (subst_vars; with_reducible exact ln_up hln9 (bd_m (by assumption)))
theorem lf_X8_row_5 {ms : Int32} {fn_ : Nat → Int32} {fz : Nat → Int32} {a0 : Int32} {a1 : Int32} {a2 : Int32} (hsz9 : ∀ j : Nat, j < 8 → fz j = -1 ∨ ∃ q : Nat, q ≤ 40 ∧ fz j = nI q) (hln9 : ∀ j : Nat, j < 8 → ¬ fz j = -1 → ¬ fn_ j = -1) (f_1_0_0 : (a0 < 0 ∨ 8 ≤ a0)) : ms = f_row a0 a1 a2 ms := by
  first
  | with_reducible exact fr_ok (by assumption) (bd_m (by assumption)) (by omega) (by assumption)
  | with_reducible exact fr_neg (by assumption) (bd_m (by assumption)) (by assumption) (by assumption) (by assumption)
  | ((with_reducible refine fr_bad ?_); (have h9 := lane64 (a := a1)); grind)
  | ((with_reducible refine (itr_n ?_).symm); (have h9 := lane64 (a := a1)); grind)
  | assumption
  | (have h9 := lane64 (a := a1); unfold sr_l; rw [if_neg (by grind)])
  | (have h9 := lane64 (a := a1); unfold sr_n; rw [if_neg (by grind)])
  | (subst_vars; rw [sr_l_ok (by assumption) (bd_m (by assumption)) (by omega)]; with_reducible exact mbl_up (by omega) (by omega))
  | (subst_vars; rw [sr_n_ok (by assumption) (bd_m (by assumption)) (by omega)]; with_reducible exact mbn_up (by omega) (by omega))
  | (subst_vars; with_reducible exact ln_up hln9 (bd_m (by assumption)))
theorem lf_X8_row_6 {fn_ : Nat → Int32} {fz : Nat → Int32} {a1 : Int32} {j_1 : Nat} (hsz9 : ∀ j : Nat, j < 8 → fz j = -1 ∨ ∃ q : Nat, q ≤ 40 ∧ fz j = nI q) (hln9 : ∀ j : Nat, j < 8 → ¬ fz j = -1 → ¬ fn_ j = -1) (hj_1 : j_1 < 8) (f_5_0_0 : ((a1).toInt64 < 0 ∨ 2 < (a1).toInt64)) : (∀ j : Nat, j < 8 → ¬ fz j = -1 → ¬ fn_ j = -1) := by
  first
  | with_reducible exact fr_ok (by assumption) (bd_m (by assumption)) (by omega) (by assumption)
  | with_reducible exact fr_neg (by assumption) (bd_m (by assumption)) (by assumption) (by assumption) (by assumption)
  | ((with_reducible refine fr_bad ?_); (have h9 := lane64 (a := a1)); grind)
  | ((with_reducible refine (itr_n ?_).symm); (have h9 := lane64 (a := a1)); grind)
  | assumption
  | (have h9 := lane64 (a := a1); unfold sr_l; rw [if_neg (by grind)])
  | (have h9 := lane64 (a := a1); unfold sr_n; rw [if_neg (by grind)])
  | (subst_vars; rw [sr_l_ok (by assumption) (bd_m (by assumption)) (by omega)]; with_reducible exact mbl_up (by omega) (by omega))
  | (subst_vars; rw [sr_n_ok (by assumption) (bd_m (by assumption)) (by omega)]; with_reducible exact mbn_up (by omega) (by omega))
  | (subst_vars; with_reducible exact ln_up hln9 (bd_m (by assumption)))
theorem lf_X8_row_7 {fn_ : Nat → Int32} {fz : Nat → Int32} {a1 : Int32} {a2 : Int32} {j_1 : Nat} (hsz9 : ∀ j : Nat, j < 8 → fz j = -1 ∨ ∃ q : Nat, q ≤ 40 ∧ fz j = nI q) (hln9 : ∀ j : Nat, j < 8 → ¬ fz j = -1 → ¬ fn_ j = -1) (hj_1 : j_1 < 8) (f_5_0_0 : ((a1).toInt64 < 0 ∨ 2 < (a1).toInt64)) : mbl fn_ fz = sr_l (mbl fn_ fz) (nI j_1) a1 a2 := by
  first
  | with_reducible exact fr_ok (by assumption) (bd_m (by assumption)) (by omega) (by assumption)
  | with_reducible exact fr_neg (by assumption) (bd_m (by assumption)) (by assumption) (by assumption) (by assumption)
  | ((with_reducible refine fr_bad ?_); (have h9 := lane64 (a := a1)); grind)
  | ((with_reducible refine (itr_n ?_).symm); (have h9 := lane64 (a := a1)); grind)
  | assumption
  | (have h9 := lane64 (a := a1); unfold sr_l; rw [if_neg (by grind)])
  | (have h9 := lane64 (a := a1); unfold sr_n; rw [if_neg (by grind)])
  | (subst_vars; rw [sr_l_ok (by assumption) (bd_m (by assumption)) (by omega)]; with_reducible exact mbl_up (by omega) (by omega))
  | (subst_vars; rw [sr_n_ok (by assumption) (bd_m (by assumption)) (by omega)]; with_reducible exact mbn_up (by omega) (by omega))
  | (subst_vars; with_reducible exact ln_up hln9 (bd_m (by assumption)))
theorem lf_X8_row_8 {fn_ : Nat → Int32} {fz : Nat → Int32} {a1 : Int32} {a2 : Int32} {j_1 : Nat} (hsz9 : ∀ j : Nat, j < 8 → fz j = -1 ∨ ∃ q : Nat, q ≤ 40 ∧ fz j = nI q) (hln9 : ∀ j : Nat, j < 8 → ¬ fz j = -1 → ¬ fn_ j = -1) (hj_1 : j_1 < 8) (f_5_0_0 : ((a1).toInt64 < 0 ∨ 2 < (a1).toInt64)) : mbn fz = sr_n (mbn fz) (nI j_1) a1 a2 := by
  first
  | with_reducible exact fr_ok (by assumption) (bd_m (by assumption)) (by omega) (by assumption)
  | with_reducible exact fr_neg (by assumption) (bd_m (by assumption)) (by assumption) (by assumption) (by assumption)
  | ((with_reducible refine fr_bad ?_); (have h9 := lane64 (a := a1)); grind)
  | ((with_reducible refine (itr_n ?_).symm); (have h9 := lane64 (a := a1)); grind)
  | assumption
  | (have h9 := lane64 (a := a1); unfold sr_l; rw [if_neg (by grind)])
  | (have h9 := lane64 (a := a1); unfold sr_n; rw [if_neg (by grind)])
  | (subst_vars; rw [sr_l_ok (by assumption) (bd_m (by assumption)) (by omega)]; with_reducible exact mbl_up (by omega) (by omega))
  | (subst_vars; rw [sr_n_ok (by assumption) (bd_m (by assumption)) (by omega)]; with_reducible exact mbn_up (by omega) (by omega))
  | (subst_vars; with_reducible exact ln_up hln9 (bd_m (by assumption)))
theorem lf_X8_row_9 {fn_ : Nat → Int32} {fz : Nat → Int32} {fi_ : Nat → Int32} {a1 : Int32} {a2 : Int32} {j_1 : Nat} (hsz9 : ∀ j : Nat, j < 8 → fz j = -1 ∨ ∃ q : Nat, q ≤ 40 ∧ fz j = nI q) (hln9 : ∀ j : Nat, j < 8 → ¬ fz j = -1 → ¬ fn_ j = -1) (hj_1 : j_1 < 8) (f_5_0_0 : ((a1).toInt64 < 0 ∨ 2 < (a1).toInt64)) : itM fi_ = n_itr (itM fi_) (nI j_1) a1 a2 := by
  first
  | with_reducible exact fr_ok (by assumption) (bd_m (by assumption)) (by omega) (by assumption)
  | with_reducible exact fr_neg (by assumption) (bd_m (by assumption)) (by assumption) (by assumption) (by assumption)
  | ((with_reducible refine fr_bad ?_); (have h9 := lane64 (a := a1)); grind)
  | ((with_reducible refine (itr_n ?_).symm); (have h9 := lane64 (a := a1)); grind)
  | assumption
  | (have h9 := lane64 (a := a1); unfold sr_l; rw [if_neg (by grind)])
  | (have h9 := lane64 (a := a1); unfold sr_n; rw [if_neg (by grind)])
  | (subst_vars; rw [sr_l_ok (by assumption) (bd_m (by assumption)) (by omega)]; with_reducible exact mbl_up (by omega) (by omega))
  | (subst_vars; rw [sr_n_ok (by assumption) (bd_m (by assumption)) (by omega)]; with_reducible exact mbn_up (by omega) (by omega))
  | (subst_vars; with_reducible exact ln_up hln9 (bd_m (by assumption)))
theorem lf_X8_row_10 {ms : Int32} {fn_ : Nat → Int32} {fz : Nat → Int32} {a1 : Int32} {a2 : Int32} {j_1 : Nat} (hsz9 : ∀ j : Nat, j < 8 → fz j = -1 ∨ ∃ q : Nat, q ≤ 40 ∧ fz j = nI q) (hln9 : ∀ j : Nat, j < 8 → ¬ fz j = -1 → ¬ fn_ j = -1) (hj_1 : j_1 < 8) (f_5_0_0 : ((a1).toInt64 < 0 ∨ 2 < (a1).toInt64)) : ms = f_row (nI j_1) a1 a2 ms := by
  first
  | with_reducible exact fr_ok (by assumption) (bd_m (by assumption)) (by omega) (by assumption)
  | with_reducible exact fr_neg (by assumption) (bd_m (by assumption)) (by assumption) (by assumption) (by assumption)
  | ((with_reducible refine fr_bad ?_); (have h9 := lane64 (a := a1)); grind)
  | ((with_reducible refine (itr_n ?_).symm); (have h9 := lane64 (a := a1)); grind)
  | assumption
  | (have h9 := lane64 (a := a1); unfold sr_l; rw [if_neg (by grind)])
  | (have h9 := lane64 (a := a1); unfold sr_n; rw [if_neg (by grind)])
  | (subst_vars; rw [sr_l_ok (by assumption) (bd_m (by assumption)) (by omega)]; with_reducible exact mbl_up (by omega) (by omega))
  | (subst_vars; rw [sr_n_ok (by assumption) (bd_m (by assumption)) (by omega)]; with_reducible exact mbn_up (by omega) (by omega))
  | (subst_vars; with_reducible exact ln_up hln9 (bd_m (by assumption)))
theorem lf_X8_row_11 {fn_ : Nat → Int32} {fz : Nat → Int32} {fi_ : Nat → Int32} {a1 : Int32} {j_1 : Nat} {j_10 : Nat} {g_11 : Nat → Int32} {g_12 : Nat → Int32} {w_17 : Nat → Int32} {msn_28 : Int32} {r_28 : Int32} (hsz9 : ∀ j : Nat, j < 8 → fz j = -1 ∨ ∃ q : Nat, q ≤ 40 ∧ fz j = nI q) (hln9 : ∀ j : Nat, j < 8 → ¬ fz j = -1 → ¬ fn_ j = -1) (hj_1 : j_1 < 8) (f_5_1_0 : (¬ ((a1).toInt64 < 0 ∨ 2 < (a1).toInt64))) (c_8 : (nI j_10) ≤ 40) (c_9 : 0 ≤ (nI j_10)) (hj_10 : j_10 ≤ 40) (hu_11 : g_11 = upd fn_ j_1 a1) (hu_12 : g_12 = upd fz j_1 (nI j_10)) (haf_0 : (∀ j : Nat, j < 40 → w_17 (40 * j_1 + j) = (fun _ => 0 : Nat → Int32) j)) (haf_1 : (∀ j : Nat, j < 40 * j_1 ∨ 40 * j_1 + 40 ≤ j → w_17 j = fi_ j)) (hF_28_0 : (msn_28 : Int32) = 0) (h_28 : r_28 = (nI j_10)) : (∀ j : Nat, j < 8 → ¬ g_12 j = -1 → ¬ g_11 j = -1) := by
  first
  | (rw [itr_y (by assumption) (bd_m (by assumption)) (by omega)]; with_reducible exact itM_s (by assumption) haf_0 haf_1)
  | with_reducible exact fr_ok (by assumption) (bd_m (by assumption)) (by omega) (by assumption)
  | with_reducible exact fr_neg (by assumption) (bd_m (by assumption)) (by assumption) (by assumption) (by assumption)
  | ((with_reducible refine fr_bad ?_); (have h9 := lane64 (a := a1)); grind)
  | ((with_reducible refine (itr_n ?_).symm); (have h9 := lane64 (a := a1)); grind)
  | assumption
  | (have h9 := lane64 (a := a1); unfold sr_l; rw [if_neg (by grind)])
  | (have h9 := lane64 (a := a1); unfold sr_n; rw [if_neg (by grind)])
  | (subst_vars; rw [sr_l_ok (by assumption) (bd_m (by assumption)) (by omega)]; with_reducible exact mbl_up (by omega) (by omega))
  | (subst_vars; rw [sr_n_ok (by assumption) (bd_m (by assumption)) (by omega)]; with_reducible exact mbn_up (by omega) (by omega))
  | (subst_vars; with_reducible exact ln_up hln9 (bd_m (by assumption)))
theorem lf_X8_row_12 {fn_ : Nat → Int32} {fz : Nat → Int32} {fi_ : Nat → Int32} {a1 : Int32} {j_1 : Nat} {j_10 : Nat} {g_11 : Nat → Int32} {g_12 : Nat → Int32} {w_17 : Nat → Int32} {msn_28 : Int32} {r_28 : Int32} (hsz9 : ∀ j : Nat, j < 8 → fz j = -1 ∨ ∃ q : Nat, q ≤ 40 ∧ fz j = nI q) (hln9 : ∀ j : Nat, j < 8 → ¬ fz j = -1 → ¬ fn_ j = -1) (hj_1 : j_1 < 8) (f_5_1_0 : (¬ ((a1).toInt64 < 0 ∨ 2 < (a1).toInt64))) (c_8 : (nI j_10) ≤ 40) (c_9 : 0 ≤ (nI j_10)) (hj_10 : j_10 ≤ 40) (hu_11 : g_11 = upd fn_ j_1 a1) (hu_12 : g_12 = upd fz j_1 (nI j_10)) (haf_0 : (∀ j : Nat, j < 40 → w_17 (40 * j_1 + j) = (fun _ => 0 : Nat → Int32) j)) (haf_1 : (∀ j : Nat, j < 40 * j_1 ∨ 40 * j_1 + 40 ≤ j → w_17 j = fi_ j)) (hF_28_0 : (msn_28 : Int32) = 0) (h_28 : r_28 = (nI j_10)) : mbl g_11 g_12 = sr_l (mbl fn_ fz) (nI j_1) a1 (nI j_10) := by
  first
  | (rw [itr_y (by assumption) (bd_m (by assumption)) (by omega)]; with_reducible exact itM_s (by assumption) haf_0 haf_1)
  | with_reducible exact fr_ok (by assumption) (bd_m (by assumption)) (by omega) (by assumption)
  | with_reducible exact fr_neg (by assumption) (bd_m (by assumption)) (by assumption) (by assumption) (by assumption)
  | ((with_reducible refine fr_bad ?_); (have h9 := lane64 (a := a1)); grind)
  | ((with_reducible refine (itr_n ?_).symm); (have h9 := lane64 (a := a1)); grind)
  | assumption
  | (have h9 := lane64 (a := a1); unfold sr_l; rw [if_neg (by grind)])
  | (have h9 := lane64 (a := a1); unfold sr_n; rw [if_neg (by grind)])
  | (subst_vars; rw [sr_l_ok (by assumption) (bd_m (by assumption)) (by omega)]; with_reducible exact mbl_up (by omega) (by omega))
  | (subst_vars; rw [sr_n_ok (by assumption) (bd_m (by assumption)) (by omega)]; with_reducible exact mbn_up (by omega) (by omega))
  | (subst_vars; with_reducible exact ln_up hln9 (bd_m (by assumption)))
theorem lf_X8_row_13 {fn_ : Nat → Int32} {fz : Nat → Int32} {fi_ : Nat → Int32} {a1 : Int32} {j_1 : Nat} {j_10 : Nat} {g_11 : Nat → Int32} {g_12 : Nat → Int32} {w_17 : Nat → Int32} {msn_28 : Int32} {r_28 : Int32} (hsz9 : ∀ j : Nat, j < 8 → fz j = -1 ∨ ∃ q : Nat, q ≤ 40 ∧ fz j = nI q) (hln9 : ∀ j : Nat, j < 8 → ¬ fz j = -1 → ¬ fn_ j = -1) (hj_1 : j_1 < 8) (f_5_1_0 : (¬ ((a1).toInt64 < 0 ∨ 2 < (a1).toInt64))) (c_8 : (nI j_10) ≤ 40) (c_9 : 0 ≤ (nI j_10)) (hj_10 : j_10 ≤ 40) (hu_11 : g_11 = upd fn_ j_1 a1) (hu_12 : g_12 = upd fz j_1 (nI j_10)) (haf_0 : (∀ j : Nat, j < 40 → w_17 (40 * j_1 + j) = (fun _ => 0 : Nat → Int32) j)) (haf_1 : (∀ j : Nat, j < 40 * j_1 ∨ 40 * j_1 + 40 ≤ j → w_17 j = fi_ j)) (hF_28_0 : (msn_28 : Int32) = 0) (h_28 : r_28 = (nI j_10)) : mbn g_12 = sr_n (mbn fz) (nI j_1) a1 (nI j_10) := by
  first
  | (rw [itr_y (by assumption) (bd_m (by assumption)) (by omega)]; with_reducible exact itM_s (by assumption) haf_0 haf_1)
  | with_reducible exact fr_ok (by assumption) (bd_m (by assumption)) (by omega) (by assumption)
  | with_reducible exact fr_neg (by assumption) (bd_m (by assumption)) (by assumption) (by assumption) (by assumption)
  | ((with_reducible refine fr_bad ?_); (have h9 := lane64 (a := a1)); grind)
  | ((with_reducible refine (itr_n ?_).symm); (have h9 := lane64 (a := a1)); grind)
  | assumption
  | (have h9 := lane64 (a := a1); unfold sr_l; rw [if_neg (by grind)])
  | (have h9 := lane64 (a := a1); unfold sr_n; rw [if_neg (by grind)])
  | (subst_vars; rw [sr_l_ok (by assumption) (bd_m (by assumption)) (by omega)]; with_reducible exact mbl_up (by omega) (by omega))
  | (subst_vars; rw [sr_n_ok (by assumption) (bd_m (by assumption)) (by omega)]; with_reducible exact mbn_up (by omega) (by omega))
  | (subst_vars; with_reducible exact ln_up hln9 (bd_m (by assumption)))
theorem lf_X8_row_14 {fn_ : Nat → Int32} {fz : Nat → Int32} {fi_ : Nat → Int32} {a1 : Int32} {j_1 : Nat} {j_10 : Nat} {g_11 : Nat → Int32} {g_12 : Nat → Int32} {w_17 : Nat → Int32} {msn_28 : Int32} {r_28 : Int32} (hsz9 : ∀ j : Nat, j < 8 → fz j = -1 ∨ ∃ q : Nat, q ≤ 40 ∧ fz j = nI q) (hln9 : ∀ j : Nat, j < 8 → ¬ fz j = -1 → ¬ fn_ j = -1) (hj_1 : j_1 < 8) (f_5_1_0 : (¬ ((a1).toInt64 < 0 ∨ 2 < (a1).toInt64))) (c_8 : (nI j_10) ≤ 40) (c_9 : 0 ≤ (nI j_10)) (hj_10 : j_10 ≤ 40) (hu_11 : g_11 = upd fn_ j_1 a1) (hu_12 : g_12 = upd fz j_1 (nI j_10)) (haf_0 : (∀ j : Nat, j < 40 → w_17 (40 * j_1 + j) = (fun _ => 0 : Nat → Int32) j)) (haf_1 : (∀ j : Nat, j < 40 * j_1 ∨ 40 * j_1 + 40 ≤ j → w_17 j = fi_ j)) (hF_28_0 : (msn_28 : Int32) = 0) (h_28 : r_28 = (nI j_10)) : itM w_17 = n_itr (itM fi_) (nI j_1) a1 (nI j_10) := by
  first
  | (rw [itr_y (by assumption) (bd_m (by assumption)) (by omega)]; with_reducible exact itM_s (by assumption) haf_0 haf_1)
  | with_reducible exact fr_ok (by assumption) (bd_m (by assumption)) (by omega) (by assumption)
  | with_reducible exact fr_neg (by assumption) (bd_m (by assumption)) (by assumption) (by assumption) (by assumption)
  | ((with_reducible refine fr_bad ?_); (have h9 := lane64 (a := a1)); grind)
  | ((with_reducible refine (itr_n ?_).symm); (have h9 := lane64 (a := a1)); grind)
  | assumption
  | (have h9 := lane64 (a := a1); unfold sr_l; rw [if_neg (by grind)])
  | (have h9 := lane64 (a := a1); unfold sr_n; rw [if_neg (by grind)])
  | (subst_vars; rw [sr_l_ok (by assumption) (bd_m (by assumption)) (by omega)]; with_reducible exact mbl_up (by omega) (by omega))
  | (subst_vars; rw [sr_n_ok (by assumption) (bd_m (by assumption)) (by omega)]; with_reducible exact mbn_up (by omega) (by omega))
  | (subst_vars; with_reducible exact ln_up hln9 (bd_m (by assumption)))
theorem lf_X8_row_15 {ms : Int32} {fn_ : Nat → Int32} {fz : Nat → Int32} {fi_ : Nat → Int32} {a1 : Int32} {j_1 : Nat} {j_10 : Nat} {g_11 : Nat → Int32} {g_12 : Nat → Int32} {w_17 : Nat → Int32} {msn_28 : Int32} {r_28 : Int32} (hsz9 : ∀ j : Nat, j < 8 → fz j = -1 ∨ ∃ q : Nat, q ≤ 40 ∧ fz j = nI q) (hln9 : ∀ j : Nat, j < 8 → ¬ fz j = -1 → ¬ fn_ j = -1) (hj_1 : j_1 < 8) (f_5_1_0 : (¬ ((a1).toInt64 < 0 ∨ 2 < (a1).toInt64))) (c_8 : (nI j_10) ≤ 40) (c_9 : 0 ≤ (nI j_10)) (hj_10 : j_10 ≤ 40) (hu_11 : g_11 = upd fn_ j_1 a1) (hu_12 : g_12 = upd fz j_1 (nI j_10)) (haf_0 : (∀ j : Nat, j < 40 → w_17 (40 * j_1 + j) = (fun _ => 0 : Nat → Int32) j)) (haf_1 : (∀ j : Nat, j < 40 * j_1 ∨ 40 * j_1 + 40 ≤ j → w_17 j = fi_ j)) (hF_28_0 : (msn_28 : Int32) = 0) (h_28 : r_28 = (nI j_10)) : msn_28 = f_row (nI j_1) a1 (nI j_10) ms := by
  first
  | (rw [itr_y (by assumption) (bd_m (by assumption)) (by omega)]; with_reducible exact itM_s (by assumption) haf_0 haf_1)
  | with_reducible exact fr_ok (by assumption) (bd_m (by assumption)) (by omega) (by assumption)
  | with_reducible exact fr_neg (by assumption) (bd_m (by assumption)) (by assumption) (by assumption) (by assumption)
  | ((with_reducible refine fr_bad ?_); (have h9 := lane64 (a := a1)); grind)
  | ((with_reducible refine (itr_n ?_).symm); (have h9 := lane64 (a := a1)); grind)
  | assumption
  | (have h9 := lane64 (a := a1); unfold sr_l; rw [if_neg (by grind)])
  | (have h9 := lane64 (a := a1); unfold sr_n; rw [if_neg (by grind)])
  | (subst_vars; rw [sr_l_ok (by assumption) (bd_m (by assumption)) (by omega)]; with_reducible exact mbl_up (by omega) (by omega))
  | (subst_vars; rw [sr_n_ok (by assumption) (bd_m (by assumption)) (by omega)]; with_reducible exact mbn_up (by omega) (by omega))
  | (subst_vars; with_reducible exact ln_up hln9 (bd_m (by assumption)))
theorem lf_X8_row_16 {fn_ : Nat → Int32} {fz : Nat → Int32} {a1 : Int32} {a2 : Int32} {j_1 : Nat} {msn_29 : Int32} {r_29 : Int32} (hsz9 : ∀ j : Nat, j < 8 → fz j = -1 ∨ ∃ q : Nat, q ≤ 40 ∧ fz j = nI q) (hln9 : ∀ j : Nat, j < 8 → ¬ fz j = -1 → ¬ fn_ j = -1) (hj_1 : j_1 < 8) (f_5_1_0 : (¬ ((a1).toInt64 < 0 ∨ 2 < (a1).toInt64))) (c_8 : a2 ≤ 40) (c_9 : ¬ (0 ≤ a2)) (hF_29_0 : (msn_29 : Int32) = 4) (h_29 : r_29 = (-1000010 - 4)) : (∀ j : Nat, j < 8 → ¬ fz j = -1 → ¬ fn_ j = -1) := by
  first
  | with_reducible exact fr_ok (by assumption) (bd_m (by assumption)) (by omega) (by assumption)
  | with_reducible exact fr_neg (by assumption) (bd_m (by assumption)) (by assumption) (by assumption) (by assumption)
  | ((with_reducible refine fr_bad ?_); (have h9 := lane64 (a := a1)); grind)
  | ((with_reducible refine (itr_n ?_).symm); (have h9 := lane64 (a := a1)); grind)
  | assumption
  | (have h9 := lane64 (a := a1); unfold sr_l; rw [if_neg (by grind)])
  | (have h9 := lane64 (a := a1); unfold sr_n; rw [if_neg (by grind)])
  | (subst_vars; rw [sr_l_ok (by assumption) (bd_m (by assumption)) (by omega)]; with_reducible exact mbl_up (by omega) (by omega))
  | (subst_vars; rw [sr_n_ok (by assumption) (bd_m (by assumption)) (by omega)]; with_reducible exact mbn_up (by omega) (by omega))
  | (subst_vars; with_reducible exact ln_up hln9 (bd_m (by assumption)))
theorem lf_X8_row_17 {fn_ : Nat → Int32} {fz : Nat → Int32} {a1 : Int32} {a2 : Int32} {j_1 : Nat} {msn_29 : Int32} {r_29 : Int32} (hsz9 : ∀ j : Nat, j < 8 → fz j = -1 ∨ ∃ q : Nat, q ≤ 40 ∧ fz j = nI q) (hln9 : ∀ j : Nat, j < 8 → ¬ fz j = -1 → ¬ fn_ j = -1) (hj_1 : j_1 < 8) (f_5_1_0 : (¬ ((a1).toInt64 < 0 ∨ 2 < (a1).toInt64))) (c_8 : a2 ≤ 40) (c_9 : ¬ (0 ≤ a2)) (hF_29_0 : (msn_29 : Int32) = 4) (h_29 : r_29 = (-1000010 - 4)) : mbl fn_ fz = sr_l (mbl fn_ fz) (nI j_1) a1 a2 := by
  first
  | with_reducible exact fr_ok (by assumption) (bd_m (by assumption)) (by omega) (by assumption)
  | with_reducible exact fr_neg (by assumption) (bd_m (by assumption)) (by assumption) (by assumption) (by assumption)
  | ((with_reducible refine fr_bad ?_); (have h9 := lane64 (a := a1)); grind)
  | ((with_reducible refine (itr_n ?_).symm); (have h9 := lane64 (a := a1)); grind)
  | assumption
  | (have h9 := lane64 (a := a1); unfold sr_l; rw [if_neg (by grind)])
  | (have h9 := lane64 (a := a1); unfold sr_n; rw [if_neg (by grind)])
  | (subst_vars; rw [sr_l_ok (by assumption) (bd_m (by assumption)) (by omega)]; with_reducible exact mbl_up (by omega) (by omega))
  | (subst_vars; rw [sr_n_ok (by assumption) (bd_m (by assumption)) (by omega)]; with_reducible exact mbn_up (by omega) (by omega))
  | (subst_vars; with_reducible exact ln_up hln9 (bd_m (by assumption)))
theorem lf_X8_row_18 {fn_ : Nat → Int32} {fz : Nat → Int32} {a1 : Int32} {a2 : Int32} {j_1 : Nat} {msn_29 : Int32} {r_29 : Int32} (hsz9 : ∀ j : Nat, j < 8 → fz j = -1 ∨ ∃ q : Nat, q ≤ 40 ∧ fz j = nI q) (hln9 : ∀ j : Nat, j < 8 → ¬ fz j = -1 → ¬ fn_ j = -1) (hj_1 : j_1 < 8) (f_5_1_0 : (¬ ((a1).toInt64 < 0 ∨ 2 < (a1).toInt64))) (c_8 : a2 ≤ 40) (c_9 : ¬ (0 ≤ a2)) (hF_29_0 : (msn_29 : Int32) = 4) (h_29 : r_29 = (-1000010 - 4)) : mbn fz = sr_n (mbn fz) (nI j_1) a1 a2 := by
  first
  | with_reducible exact fr_ok (by assumption) (bd_m (by assumption)) (by omega) (by assumption)
  | with_reducible exact fr_neg (by assumption) (bd_m (by assumption)) (by assumption) (by assumption) (by assumption)
  | ((with_reducible refine fr_bad ?_); (have h9 := lane64 (a := a1)); grind)
  | ((with_reducible refine (itr_n ?_).symm); (have h9 := lane64 (a := a1)); grind)
  | assumption
  | (have h9 := lane64 (a := a1); unfold sr_l; rw [if_neg (by grind)])
  | (have h9 := lane64 (a := a1); unfold sr_n; rw [if_neg (by grind)])
  | (subst_vars; rw [sr_l_ok (by assumption) (bd_m (by assumption)) (by omega)]; with_reducible exact mbl_up (by omega) (by omega))
  | (subst_vars; rw [sr_n_ok (by assumption) (bd_m (by assumption)) (by omega)]; with_reducible exact mbn_up (by omega) (by omega))
  | (subst_vars; with_reducible exact ln_up hln9 (bd_m (by assumption)))
theorem lf_X8_row_19 {fn_ : Nat → Int32} {fz : Nat → Int32} {fi_ : Nat → Int32} {a1 : Int32} {a2 : Int32} {j_1 : Nat} {msn_29 : Int32} {r_29 : Int32} (hsz9 : ∀ j : Nat, j < 8 → fz j = -1 ∨ ∃ q : Nat, q ≤ 40 ∧ fz j = nI q) (hln9 : ∀ j : Nat, j < 8 → ¬ fz j = -1 → ¬ fn_ j = -1) (hj_1 : j_1 < 8) (f_5_1_0 : (¬ ((a1).toInt64 < 0 ∨ 2 < (a1).toInt64))) (c_8 : a2 ≤ 40) (c_9 : ¬ (0 ≤ a2)) (hF_29_0 : (msn_29 : Int32) = 4) (h_29 : r_29 = (-1000010 - 4)) : itM fi_ = n_itr (itM fi_) (nI j_1) a1 a2 := by
  first
  | with_reducible exact fr_ok (by assumption) (bd_m (by assumption)) (by omega) (by assumption)
  | with_reducible exact fr_neg (by assumption) (bd_m (by assumption)) (by assumption) (by assumption) (by assumption)
  | ((with_reducible refine fr_bad ?_); (have h9 := lane64 (a := a1)); grind)
  | ((with_reducible refine (itr_n ?_).symm); (have h9 := lane64 (a := a1)); grind)
  | assumption
  | (have h9 := lane64 (a := a1); unfold sr_l; rw [if_neg (by grind)])
  | (have h9 := lane64 (a := a1); unfold sr_n; rw [if_neg (by grind)])
  | (subst_vars; rw [sr_l_ok (by assumption) (bd_m (by assumption)) (by omega)]; with_reducible exact mbl_up (by omega) (by omega))
  | (subst_vars; rw [sr_n_ok (by assumption) (bd_m (by assumption)) (by omega)]; with_reducible exact mbn_up (by omega) (by omega))
  | (subst_vars; with_reducible exact ln_up hln9 (bd_m (by assumption)))
theorem lf_X8_row_20 {ms : Int32} {fn_ : Nat → Int32} {fz : Nat → Int32} {a1 : Int32} {a2 : Int32} {j_1 : Nat} {msn_29 : Int32} {r_29 : Int32} (hsz9 : ∀ j : Nat, j < 8 → fz j = -1 ∨ ∃ q : Nat, q ≤ 40 ∧ fz j = nI q) (hln9 : ∀ j : Nat, j < 8 → ¬ fz j = -1 → ¬ fn_ j = -1) (hj_1 : j_1 < 8) (f_5_1_0 : (¬ ((a1).toInt64 < 0 ∨ 2 < (a1).toInt64))) (c_8 : a2 ≤ 40) (c_9 : ¬ (0 ≤ a2)) (hF_29_0 : (msn_29 : Int32) = 4) (h_29 : r_29 = (-1000010 - 4)) : msn_29 = f_row (nI j_1) a1 a2 ms := by
  first
  | with_reducible exact fr_ok (by assumption) (bd_m (by assumption)) (by omega) (by assumption)
  | with_reducible exact fr_neg (by assumption) (bd_m (by assumption)) (by assumption) (by assumption) (by assumption)
  | ((with_reducible refine fr_bad ?_); (have h9 := lane64 (a := a1)); grind)
  | ((with_reducible refine (itr_n ?_).symm); (have h9 := lane64 (a := a1)); grind)
  | assumption
  | (have h9 := lane64 (a := a1); unfold sr_l; rw [if_neg (by grind)])
  | (have h9 := lane64 (a := a1); unfold sr_n; rw [if_neg (by grind)])
  | (subst_vars; rw [sr_l_ok (by assumption) (bd_m (by assumption)) (by omega)]; with_reducible exact mbl_up (by omega) (by omega))
  | (subst_vars; rw [sr_n_ok (by assumption) (bd_m (by assumption)) (by omega)]; with_reducible exact mbn_up (by omega) (by omega))
  | (subst_vars; with_reducible exact ln_up hln9 (bd_m (by assumption)))
theorem lf_X8_row_21 {fn_ : Nat → Int32} {fz : Nat → Int32} {a1 : Int32} {a2 : Int32} {j_1 : Nat} (hsz9 : ∀ j : Nat, j < 8 → fz j = -1 ∨ ∃ q : Nat, q ≤ 40 ∧ fz j = nI q) (hln9 : ∀ j : Nat, j < 8 → ¬ fz j = -1 → ¬ fn_ j = -1) (hj_1 : j_1 < 8) (f_5_1_0 : (¬ ((a1).toInt64 < 0 ∨ 2 < (a1).toInt64))) (c_8 : ¬ (a2 ≤ 40)) : (∀ j : Nat, j < 8 → ¬ fz j = -1 → ¬ fn_ j = -1) := by
  first
  | with_reducible exact fr_ok (by assumption) (bd_m (by assumption)) (by omega) (by assumption)
  | with_reducible exact fr_neg (by assumption) (bd_m (by assumption)) (by assumption) (by assumption) (by assumption)
  | ((with_reducible refine fr_bad ?_); (have h9 := lane64 (a := a1)); grind)
  | ((with_reducible refine (itr_n ?_).symm); (have h9 := lane64 (a := a1)); grind)
  | assumption
  | (have h9 := lane64 (a := a1); unfold sr_l; rw [if_neg (by grind)])
  | (have h9 := lane64 (a := a1); unfold sr_n; rw [if_neg (by grind)])
  | (subst_vars; rw [sr_l_ok (by assumption) (bd_m (by assumption)) (by omega)]; with_reducible exact mbl_up (by omega) (by omega))
  | (subst_vars; rw [sr_n_ok (by assumption) (bd_m (by assumption)) (by omega)]; with_reducible exact mbn_up (by omega) (by omega))
  | (subst_vars; with_reducible exact ln_up hln9 (bd_m (by assumption)))
theorem lf_X8_row_22 {fn_ : Nat → Int32} {fz : Nat → Int32} {a1 : Int32} {a2 : Int32} {j_1 : Nat} (hsz9 : ∀ j : Nat, j < 8 → fz j = -1 ∨ ∃ q : Nat, q ≤ 40 ∧ fz j = nI q) (hln9 : ∀ j : Nat, j < 8 → ¬ fz j = -1 → ¬ fn_ j = -1) (hj_1 : j_1 < 8) (f_5_1_0 : (¬ ((a1).toInt64 < 0 ∨ 2 < (a1).toInt64))) (c_8 : ¬ (a2 ≤ 40)) : mbl fn_ fz = sr_l (mbl fn_ fz) (nI j_1) a1 a2 := by
  first
  | with_reducible exact fr_ok (by assumption) (bd_m (by assumption)) (by omega) (by assumption)
  | with_reducible exact fr_neg (by assumption) (bd_m (by assumption)) (by assumption) (by assumption) (by assumption)
  | ((with_reducible refine fr_bad ?_); (have h9 := lane64 (a := a1)); grind)
  | ((with_reducible refine (itr_n ?_).symm); (have h9 := lane64 (a := a1)); grind)
  | assumption
  | (have h9 := lane64 (a := a1); unfold sr_l; rw [if_neg (by grind)])
  | (have h9 := lane64 (a := a1); unfold sr_n; rw [if_neg (by grind)])
  | (subst_vars; rw [sr_l_ok (by assumption) (bd_m (by assumption)) (by omega)]; with_reducible exact mbl_up (by omega) (by omega))
  | (subst_vars; rw [sr_n_ok (by assumption) (bd_m (by assumption)) (by omega)]; with_reducible exact mbn_up (by omega) (by omega))
  | (subst_vars; with_reducible exact ln_up hln9 (bd_m (by assumption)))
theorem lf_X8_row_23 {fn_ : Nat → Int32} {fz : Nat → Int32} {a1 : Int32} {a2 : Int32} {j_1 : Nat} (hsz9 : ∀ j : Nat, j < 8 → fz j = -1 ∨ ∃ q : Nat, q ≤ 40 ∧ fz j = nI q) (hln9 : ∀ j : Nat, j < 8 → ¬ fz j = -1 → ¬ fn_ j = -1) (hj_1 : j_1 < 8) (f_5_1_0 : (¬ ((a1).toInt64 < 0 ∨ 2 < (a1).toInt64))) (c_8 : ¬ (a2 ≤ 40)) : mbn fz = sr_n (mbn fz) (nI j_1) a1 a2 := by
  first
  | with_reducible exact fr_ok (by assumption) (bd_m (by assumption)) (by omega) (by assumption)
  | with_reducible exact fr_neg (by assumption) (bd_m (by assumption)) (by assumption) (by assumption) (by assumption)
  | ((with_reducible refine fr_bad ?_); (have h9 := lane64 (a := a1)); grind)
  | ((with_reducible refine (itr_n ?_).symm); (have h9 := lane64 (a := a1)); grind)
  | assumption
  | (have h9 := lane64 (a := a1); unfold sr_l; rw [if_neg (by grind)])
  | (have h9 := lane64 (a := a1); unfold sr_n; rw [if_neg (by grind)])
  | (subst_vars; rw [sr_l_ok (by assumption) (bd_m (by assumption)) (by omega)]; with_reducible exact mbl_up (by omega) (by omega))
  | (subst_vars; rw [sr_n_ok (by assumption) (bd_m (by assumption)) (by omega)]; with_reducible exact mbn_up (by omega) (by omega))
  | (subst_vars; with_reducible exact ln_up hln9 (bd_m (by assumption)))
theorem lf_X8_row_24 {fn_ : Nat → Int32} {fz : Nat → Int32} {fi_ : Nat → Int32} {a1 : Int32} {a2 : Int32} {j_1 : Nat} (hsz9 : ∀ j : Nat, j < 8 → fz j = -1 ∨ ∃ q : Nat, q ≤ 40 ∧ fz j = nI q) (hln9 : ∀ j : Nat, j < 8 → ¬ fz j = -1 → ¬ fn_ j = -1) (hj_1 : j_1 < 8) (f_5_1_0 : (¬ ((a1).toInt64 < 0 ∨ 2 < (a1).toInt64))) (c_8 : ¬ (a2 ≤ 40)) : itM fi_ = n_itr (itM fi_) (nI j_1) a1 a2 := by
  first
  | with_reducible exact fr_ok (by assumption) (bd_m (by assumption)) (by omega) (by assumption)
  | with_reducible exact fr_neg (by assumption) (bd_m (by assumption)) (by assumption) (by assumption) (by assumption)
  | ((with_reducible refine fr_bad ?_); (have h9 := lane64 (a := a1)); grind)
  | ((with_reducible refine (itr_n ?_).symm); (have h9 := lane64 (a := a1)); grind)
  | assumption
  | (have h9 := lane64 (a := a1); unfold sr_l; rw [if_neg (by grind)])
  | (have h9 := lane64 (a := a1); unfold sr_n; rw [if_neg (by grind)])
  | (subst_vars; rw [sr_l_ok (by assumption) (bd_m (by assumption)) (by omega)]; with_reducible exact mbl_up (by omega) (by omega))
  | (subst_vars; rw [sr_n_ok (by assumption) (bd_m (by assumption)) (by omega)]; with_reducible exact mbn_up (by omega) (by omega))
  | (subst_vars; with_reducible exact ln_up hln9 (bd_m (by assumption)))
theorem lf_X8_row_25 {ms : Int32} {fn_ : Nat → Int32} {fz : Nat → Int32} {a1 : Int32} {a2 : Int32} {j_1 : Nat} (hsz9 : ∀ j : Nat, j < 8 → fz j = -1 ∨ ∃ q : Nat, q ≤ 40 ∧ fz j = nI q) (hln9 : ∀ j : Nat, j < 8 → ¬ fz j = -1 → ¬ fn_ j = -1) (hj_1 : j_1 < 8) (f_5_1_0 : (¬ ((a1).toInt64 < 0 ∨ 2 < (a1).toInt64))) (c_8 : ¬ (a2 ≤ 40)) : ms = f_row (nI j_1) a1 a2 ms := by
  first
  | with_reducible exact fr_ok (by assumption) (bd_m (by assumption)) (by omega) (by assumption)
  | with_reducible exact fr_neg (by assumption) (bd_m (by assumption)) (by assumption) (by assumption) (by assumption)
  | ((with_reducible refine fr_bad ?_); (have h9 := lane64 (a := a1)); grind)
  | ((with_reducible refine (itr_n ?_).symm); (have h9 := lane64 (a := a1)); grind)
  | assumption
  | (have h9 := lane64 (a := a1); unfold sr_l; rw [if_neg (by grind)])
  | (have h9 := lane64 (a := a1); unfold sr_n; rw [if_neg (by grind)])
  | (subst_vars; rw [sr_l_ok (by assumption) (bd_m (by assumption)) (by omega)]; with_reducible exact mbl_up (by omega) (by omega))
  | (subst_vars; rw [sr_n_ok (by assumption) (bd_m (by assumption)) (by omega)]; with_reducible exact mbn_up (by omega) (by omega))
  | (subst_vars; with_reducible exact ln_up hln9 (bd_m (by assumption)))
set_option maxHeartbeats 4000000 in
set_option maxRecDepth 100000 in
theorem r_X8_row (l : Launch) (dC : Nat → ClassId) (dI : Nat → Nat → Nat) (cI cZ cL cJ : ClassId) (sz : Nat) (mo : Nat) (m_la : Nat) (m_sz : Nat) (m_it : Nat) (m_st : Nat) (m_mv : Nat) (m_tp : Nat) (m_rd : Nat) (m_ac : Nat) (m_as : Nat) (m_wo : Nat) (m_ik : Nat) (m_ke : Nat) (m_tr : Nat) (ms : Int32) (mt : Int32) (ml : Int32) (mk : Int32) (mv : Int32) (mb : Int32) (mw : Int32) (mz : Nat) (mp : Nat) (ma : Nat) (mx : Nat) (fn_ : Nat → Int32) (fz : Nat → Int32) (fi_ : Nat → Int32) (a0 : Int32) (a1 : Int32) (a2 : Int32) (hsz9 : ∀ j : Nat, j < 8 → fz j = -1 ∨ ∃ q : Nat, q ≤ 40 ∧ fz j = nI q) (hln9 : ∀ j : Nat, j < 8 → ¬ fz j = -1 → ¬ fn_ j = -1) : Met l yX8_row wsX8_row ({ frames := 2, cells := 0, slots := 0, locals := 45 }) (va_Pc [.ref mo, .int a0, .int a1, .int a2] (fun U => U.heap.size = sz ∧ va_P (dC, dI) vwCl [(xo_8_rrriirrriiiiiiirrirrrrri mo m_la m_sz m_it ms mt m_st m_mv m_tp (nI mz) ml (nI mp) mk mv mb mw m_rd m_ac (nI ma) m_as m_wo m_ik m_ke m_tr (nI mx)), (xI m_la cI 8 fn_), (xI m_sz cI 8 fz), (xI m_it cI 320 fi_)] U.heap ∧ va_K (dC, dI) vwCl [(cI, .int), (cZ, .boolean), (cL, .object RX3), (cJ, .array .int)] U ∧ va_D (fun _ => True) [(xo_8_rrriirrriiiiiiirrirrrrri mo m_la m_sz m_it ms mt m_st m_mv m_tp (nI mz) ml (nI mp) mk mv mb mw m_rd m_ac (nI ma) m_as m_wo m_ik m_ke m_tr (nI mx)), (xI m_la cI 8 fn_), (xI m_sz cI 8 fz), (xI m_it cI 320 fi_)])) (va_Qi (fun r (_ : Unit) => r = (an_row a0 a1 a2)) (fun (_ : Unit) t => ∃ (fnn_ : Nat → Int32) (fzn : Nat → Int32) (fin_ : Nat → Int32) (msn : Int32), va_P (dC, dI) vwCl [(xo_8_rrriirrriiiiiiirrirrrrri mo m_la m_sz m_it msn mt m_st m_mv m_tp (nI mz) ml (nI mp) mk mv mb mw m_rd m_ac (nI ma) m_as m_wo m_ik m_ke m_tr (nI mx)), (xI m_la cI 8 fnn_), (xI m_sz cI 8 fzn), (xI m_it cI 320 fin_)] t.heap ∧ va_D (va_A [(xo_8_rrriirrriiiiiiirrirrrrri mo m_la m_sz m_it ms mt m_st m_mv m_tp (nI mz) ml (nI mp) mk mv mb mw m_rd m_ac (nI ma) m_as m_wo m_ik m_ke m_tr (nI mx)), (xI m_la cI 8 fn_), (xI m_sz cI 8 fz), (xI m_it cI 320 fi_)] sz) [(xo_8_rrriirrriiiiiiirrirrrrri mo m_la m_sz m_it msn mt m_st m_mv m_tp (nI mz) ml (nI mp) mk mv mb mw m_rd m_ac (nI ma) m_as m_wo m_ik m_ke m_tr (nI mx)), (xI m_la cI 8 fnn_), (xI m_sz cI 8 fzn), (xI m_it cI 320 fin_)] ∧ (∀ j : Nat, j < 8 → fzn j = -1 ∨ ∃ q : Nat, q ≤ 40 ∧ fzn j = nI q) ∧ (∀ j : Nat, j < 8 → ¬ fzn j = -1 → ¬ fnn_ j = -1) ∧ mbl fnn_ fzn = sr_l (mbl fn_ fz) a0 a1 a2 ∧ mbn fzn = sr_n (mbn fz) a0 a1 a2 ∧ itM fin_ = n_itr (itM fi_) a0 a1 a2 ∧ msn = f_row a0 a1 a2 ms) (va_A [(xo_8_rrriirrriiiiiiirrirrrrri mo m_la m_sz m_it ms mt m_st m_mv m_tp (nI mz) ml (nI mp) mk mv mb mw m_rd m_ac (nI ma) m_as m_wo m_ik m_ke m_tr (nI mx)), (xI m_la cI 8 fn_), (xI m_sz cI 8 fz), (xI m_it cI 320 fi_)] sz)) 0 0 (va_A [(xo_8_rrriirrriiiiiiirrirrrrri mo m_la m_sz m_it ms mt m_st m_mv m_tp (nI mz) ml (nI mp) mk mv mb mw m_rd m_ac (nI ma) m_as m_wo m_ik m_ke m_tr (nI mx)), (xI m_la cI 8 fn_), (xI m_sz cI 8 fz), (xI m_it cI 320 fi_)] sz) := by
  refine Met.ofW (cc := cX8_row) (maxL := 5) (ret := (some .int)) (by decide) rfl ?_
  intro p e s m args below meth c s₁ B hml hv
  obtain ⟨rfl, hsz, hP, hK, hD0⟩ := hv
  have hx := B.exec
  have hb := B.bytes
  have hr := B.returns
  have hts := atoms_spec (ws := wsX8_row) B.pre
  have hown : s.vm.findClass RX8 = some m.cls := findClass_of_methodNamed B.named
  have hlocks := B.notSynchronized
  subst hsz
  have hD := hD0.self (sz := s.heap.size)
  generalize hAe : va_A [(xo_8_rrriirrriiiiiiirrirrrrri mo m_la m_sz m_it ms mt m_st m_mv m_tp (nI mz) ml (nI mp) mk mv mb mw m_rd m_ac (nI ma) m_as m_wo m_ik m_ke m_tr (nI mx)), (xI m_la cI 8 fn_), (xI m_sz cI 8 fz), (xI m_it cI 320 fi_)] s.heap.size = A at hD ⊢
  have hA : ∀ q : Nat, s.heap.size ≤ q → A q := fun q h => by rw [← hAe]; exact Or.inr h
  have hS : va_S A s.heap s.heap [] := va_S.rf
  have hP : va_P (dC, dI) vwCl [(xo_8_rrriirrriiiiiiirrirrrrri mo m_la m_sz m_it ms mt m_st m_mv m_tp (nI mz) ml (nI mp) mk mv mb mw m_rd m_ac (nI ma) m_as m_wo m_ik m_ke m_tr (nI mx)), (xI m_la cI 8 fn_), (xI m_sz cI 8 fz), (xI m_it cI 320 fi_)] s.heap := hP
  have hl := lv_entry ([.ref mo, .int a0, .int a1, .int a2]) (n := 5) (Nat.le_of_ble_eq_true rfl)
  rw [lg_entry_eq]
  generalize (lg_sl ([.ref mo, .int a0, .int a1, .int a2]) ++ List.replicate (5 - (lg_sl ([.ref mo, .int a0, .int a1, .int a2])).length) Slot.unset).toArray = ls at hl ⊢
  have hl : lv_has ls 5 [(0, .ref mo), (1, .int a0), (2, .int a1), (3, .int a2)] := hl
  refine lv_iload_n hx hb dX8_row_0 rfl (lv_at hl 1 rfl) ?_
  have hPc_1 := hP.sub (ws' := []) [] rfl
  refine vp_callSi (W.runS (As := [.int a0]) (rest := []) ⟨hx, hb, hml, hown, hts⟩ (r_X8_isRow l dC dI cI cZ cL cJ a0 ) (va_cwS 1 hts gX8_row_X8_isRow rfl rfl rfl (by decide +kernel) ⟨Nat.le_of_ble_eq_true rfl, Nat.le_of_ble_eq_true rfl⟩) (psP hK hPc_1) rfl rfl hl.1 rfl (lv_room (Nat.le_of_ble_eq_true rfl)) dX8_row_1 ⟨Nat.le_of_ble_eq_true rfl, Nat.le_of_ble_eq_true rfl⟩) (fun r_1 h_1 => ?_)
  rcases h_1 with ⟨h_1, f_1_0_0⟩ | ⟨h_1, f_1_1_0⟩
  · subst h_1
    refine lv_if_eq (tgt := 25) hx hb dX8_row_4 (by decide) (fun _ => ?_) (fun c_ => absurd (by decide) c_)
    refine lv_ldc (own := RX8) (v := (-1000001)) hx hb hown (hts _ mx_X8_row_2) dX8_row_25 ?_
    have hX9 := cut2 (wc := [(xo_8_rrriirrriiiiiiirrirrrrri mo m_la m_sz m_it ms mt m_st m_mv m_tp (nI mz) ml (nI mp) mk mv mb mw m_rd m_ac (nI ma) m_as m_wo m_ik m_ke m_tr (nI mx)), (xI m_la cI 8 fn_), (xI m_sz cI 8 fz), (xI m_it cI 320 fi_)]) hP hD [0, 1, 2, 3] (by decide +kernel) rfl
    exact W.iret (v := (-1000001)) hx hb hr (fun t ht hW => ⟨⟨(-1000001), (), rfl, (ar_1 f_1_0_0), ⟨fn_, fz, fi_, ms, va_Ht ht hX9.1, hX9.2, hsz9, (lf_X8_row_1 hsz9 hln9 f_1_0_0), (lf_X8_row_2 hsz9 hln9 f_1_0_0), (lf_X8_row_3 hsz9 hln9 f_1_0_0), (lf_X8_row_4 hsz9 hln9 f_1_0_0), (lf_X8_row_5 hsz9 hln9 f_1_0_0)⟩⟩, hS.F ht⟩) hS.2.2 dX8_row_27
  · subst h_1
    obtain ⟨j_1, hj_1, rfl⟩ := vp_in_of f_1_1_0 (by omega)
    refine lv_if_eq (tgt := 25) hx hb dX8_row_4 (by decide) (fun c_ => absurd c_ (by decide)) (fun _ => ?_)
    refine lv_iload_n hx hb dX8_row_7 rfl (lv_at hl 2 rfl) ?_
    refine lv_i2l hx hb dX8_row_8 rfl ?_
    refine lv_lconst (v := 0) hx hb dX8_row_9 (by decide) ?_
    refine lv_ldc2 (own := RX8) (v := 2) hx hb hown (hts _ mx_X8_row_1) dX8_row_10 ?_
    have hPc_5 := hP.sub (ws' := []) [] rfl
    refine vp_callSi (W.runS (As := [.long (a1).toInt64, .long 0, .long 2]) (rest := []) ⟨hx, hb, hml, hown, hts⟩ (r_X8_in l dC dI cI cZ cL cJ ((a1).toInt64) 0 2 ) (va_cwS 3 hts gX8_row_X8_in rfl rfl rfl (by decide +kernel) ⟨Nat.le_of_ble_eq_true rfl, Nat.le_of_ble_eq_true rfl⟩) (psP hK hPc_5) rfl rfl hl.1 rfl (lv_room (Nat.le_of_ble_eq_true rfl)) dX8_row_13 ⟨Nat.le_of_ble_eq_true rfl, Nat.le_of_ble_eq_true rfl⟩) (fun r_5 h_5 => ?_)
    rcases h_5 with ⟨h_5, f_5_0_0⟩ | ⟨h_5, f_5_1_0⟩
    · subst h_5
      refine lv_if_eq (tgt := 25) hx hb dX8_row_16 (by decide) (fun _ => ?_) (fun c_ => absurd (by decide) c_)
      refine lv_ldc (own := RX8) (v := (-1000001)) hx hb hown (hts _ mx_X8_row_2) dX8_row_25 ?_
      have hX9 := cut2 (wc := [(xo_8_rrriirrriiiiiiirrirrrrri mo m_la m_sz m_it ms mt m_st m_mv m_tp (nI mz) ml (nI mp) mk mv mb mw m_rd m_ac (nI ma) m_as m_wo m_ik m_ke m_tr (nI mx)), (xI m_la cI 8 fn_), (xI m_sz cI 8 fz), (xI m_it cI 320 fi_)]) hP hD [0, 1, 2, 3] (by decide +kernel) rfl
      exact W.iret (v := (-1000001)) hx hb hr (fun t ht hW => ⟨⟨(-1000001), (), rfl, (ar_2 f_5_0_0), ⟨fn_, fz, fi_, ms, va_Ht ht hX9.1, hX9.2, hsz9, (lf_X8_row_6 hsz9 hln9 hj_1 f_5_0_0), (lf_X8_row_7 hsz9 hln9 hj_1 f_5_0_0), (lf_X8_row_8 hsz9 hln9 hj_1 f_5_0_0), (lf_X8_row_9 hsz9 hln9 hj_1 f_5_0_0), (lf_X8_row_10 hsz9 hln9 hj_1 f_5_0_0)⟩⟩, hS.F ht⟩) hS.2.2 dX8_row_27
    · subst h_5
      refine lv_if_eq (tgt := 25) hx hb dX8_row_16 (by decide) (fun c_ => absurd c_ (by decide)) (fun _ => ?_)
      refine lv_iload_n hx hb dX8_row_19 rfl (lv_at hl 3 rfl) ?_
      refine lv_bipush (v := 40) hx hb dX8_row_20 (by decide) ?_
      refine lv_icmp_le (tgt := 28) hx hb dX8_row_22 (by decide) (fun c_8 => ?_) (fun c_8 => ?_)
      · skip
        refine lv_iload_n hx hb dX8_row_28 rfl (lv_at hl 3 rfl) ?_
        refine lv_if_ge (tgt := 38) hx hb dX8_row_29 (by decide) (fun c_9 => ?_) (fun c_9 => ?_)
        · skip
          obtain ⟨j_10, hj_10, rfl⟩ := nat_le (n := 40) (i_nlt.mpr c_9) rfl c_8 (by decide)
          refine lv_aload_n hx hb dX8_row_38 rfl (lv_at hl 0 rfl) ?_
          refine va_get (D := (dC, dI)) (ci := 8) (v := .ref m_la) (C := RX8) (T := TX8) (N := 24) hx hb hts i_X8_row_X8 hown hK hP 0 rfl rfl 0 (by decide) (hts _ mx_X8_row_3) (fun _ h9 => h9) rfl dX8_row_39 ?_
          refine lv_iload_n hx hb dX8_row_42 rfl (lv_at hl 1 rfl) ?_
          refine lv_iload_n hx hb dX8_row_43 rfl (lv_at hl 2 rfl) ?_
          refine va_iast hx hb hK hP hD hS 1 0 rfl rfl (vp_in_nI (by omega) (by omega)) dX8_row_44 (fun H locs hP hD hS => ?_)
          generalize hg_11 : upd fn_ ((nI j_1) : Int32).toNatClampNeg a1 = g_11 at hP hD
          have hu_11 : g_11 = upd fn_ j_1 a1 := (by rw [← hg_11, nI_clamp (by omega)])
          have hP : va_P (dC, dI) vwCl [(xo_8_rrriirrriiiiiiirrirrrrri mo m_la m_sz m_it ms mt m_st m_mv m_tp (nI mz) ml (nI mp) mk mv mb mw m_rd m_ac (nI ma) m_as m_wo m_ik m_ke m_tr (nI mx)), (xI m_la cI 8 g_11), (xI m_sz cI 8 fz), (xI m_it cI 320 fi_)] H := hP
          have hD := dto hP hD
          refine lv_aload_n hx hb dX8_row_45 rfl (lv_at hl 0 rfl) ?_
          refine va_get (D := (dC, dI)) (ci := 8) (v := .ref m_sz) (C := RX8) (T := TX8) (N := 24) hx hb hts i_X8_row_X8 hown hK hP 0 rfl rfl 1 (by decide) (hts _ mx_X8_row_4) (fun _ h9 => h9) rfl dX8_row_46 ?_
          refine lv_iload_n hx hb dX8_row_49 rfl (lv_at hl 1 rfl) ?_
          refine lv_iload_n hx hb dX8_row_50 rfl (lv_at hl 3 rfl) ?_
          refine va_iast hx hb hK hP hD hS 2 0 rfl rfl (vp_in_nI (by omega) (by omega)) dX8_row_51 (fun H locs hP hD hS => ?_)
          generalize hg_12 : upd fz ((nI j_1) : Int32).toNatClampNeg (nI j_10) = g_12 at hP hD
          have hu_12 : g_12 = upd fz j_1 (nI j_10) := (by rw [← hg_12, nI_clamp (by omega)])
          have hsu := sz_up hsz9 (by omega) (by omega) hg_12
          have hP : va_P (dC, dI) vwCl [(xo_8_rrriirrriiiiiiirrirrrrri mo m_la m_sz m_it ms mt m_st m_mv m_tp (nI mz) ml (nI mp) mk mv mb mw m_rd m_ac (nI ma) m_as m_wo m_ik m_ke m_tr (nI mx)), (xI m_la cI 8 g_11), (xI m_sz cI 8 g_12), (xI m_it cI 320 fi_)] H := hP
          have hD := dto hP hD
          refine lv_iconst (v := 0) hx hb dX8_row_52 (by decide) ?_
          refine lv_istore (lv' := [(4, .int 0), (0, .ref mo), (1, .int (nI j_1)), (2, .int a1), (3, .int (nI j_10))]) hx hb dX8_row_53 hl (by decide) rfl (fun ls hl => ?_)
          refine lp_go (σ := (Nat → Int32)) (fun ii (st : (Nat → Int32)) H locs ls => match st with | w_17 => lv_has ls 5 [(4, .int (nI ii)), (0, .ref mo), (1, .int (nI j_1)), (2, .int a1), (3, .int (nI j_10))] ∧ va_P (dC, dI) vwCl [(xo_8_rrriirrriiiiiiirrirrrrri mo m_la m_sz m_it ms mt m_st m_mv m_tp (nI mz) ml (nI mp) mk mv mb mw m_rd m_ac (nI ma) m_as m_wo m_ik m_ke m_tr (nI mx)), (xI m_la cI 8 g_11), (xI m_sz cI 8 g_12), (xI m_it cI 320 w_17)] H ∧ va_D A [(xo_8_rrriirrriiiiiiirrirrrrri mo m_la m_sz m_it ms mt m_st m_mv m_tp (nI mz) ml (nI mp) mk mv mb mw m_rd m_ac (nI ma) m_as m_wo m_ik m_ke m_tr (nI mx)), (xI m_la cI 8 g_11), (xI m_sz cI 8 g_12), (xI m_it cI 320 w_17)] ∧ va_S A s.heap H locs ∧ (∀ j : Nat, j < ii → w_17 (40 * j_1 + j) = (fun _ => 0 : Nat → Int32) j) ∧ (∀ j : Nat, j < 40 * j_1 ∨ 40 * j_1 + 40 ≤ j → w_17 j = fi_ j)) 40 ?_ ?_ 0 (by omega) (fi_) ⟨lv_sub hl [0, 1, 2, 3, 4] rfl, hP.sub (ws' := [(xo_8_rrriirrriiiiiiirrirrrrri mo m_la m_sz m_it ms mt m_st m_mv m_tp (nI mz) ml (nI mp) mk mv mb mw m_rd m_ac (nI ma) m_as m_wo m_ik m_ke m_tr (nI mx)), (xI m_la cI 8 g_11), (xI m_sz cI 8 g_12), (xI m_it cI 320 fi_)]) [0, 1, 2, 3] rfl, hD.sub (ws' := [(xo_8_rrriirrriiiiiiirrirrrrri mo m_la m_sz m_it ms mt m_st m_mv m_tp (nI mz) ml (nI mp) mk mv mb mw m_rd m_ac (nI ma) m_as m_wo m_ik m_ke m_tr (nI mx)), (xI m_la cI 8 g_11), (xI m_sz cI 8 g_12), (xI m_it cI 320 fi_)]) [0, 1, 2, 3] (by decide +kernel) rfl, hS, (fun j h_ => absurd h_ (Nat.not_lt_zero j)), (fun j _ => rfl)⟩
          · rintro ii w_17 H locs ls hii ⟨hl, hP, hD, hS, haf_0, haf_1⟩ ih
            refine lv_iload hx hb dX8_row_55 (lv_at hl 0 rfl) ?_
            refine lv_bipush (v := 40) hx hb dX8_row_57 (by decide) ?_
            refine lv_icmp_ge (tgt := 81) hx hb dX8_row_59 (by decide) (fun c_ => absurd c_ (fun q_ => absurd ((nI_leI (a := 40) (b := ii) (by omega) (by omega)).mp q_) (by omega))) (fun _ => ?_)
            refine lv_aload_n hx hb dX8_row_62 rfl (lv_at hl 1 rfl) ?_
            refine va_get (D := (dC, dI)) (ci := 8) (v := .ref m_it) (C := RX8) (T := TX8) (N := 24) hx hb hts i_X8_row_X8 hown hK hP 0 rfl rfl 2 (by decide) (hts _ mx_X8_row_5) (fun _ h9 => h9) rfl dX8_row_63 ?_
            refine lv_bipush (v := 40) hx hb dX8_row_66 (by decide) ?_
            refine lv_iload_n hx hb dX8_row_68 rfl (lv_at hl 2 rfl) ?_
            refine lv_imul hx hb dX8_row_69 ?_
            refine lv_topi (fun v_24 e_24 => ?_)
            obtain rfl : v_24 = (nI (40 * j_1)) := (e_24).trans (pk_mul 40 j_1)
            refine lv_iload hx hb dX8_row_70 (lv_at hl 0 rfl) ?_
            refine lv_iadd hx hb dX8_row_72 ?_
            refine lv_topi (fun v_25 e_25 => ?_)
            obtain rfl : v_25 = (nI ((40 * j_1) + ii)) := (e_25).trans (nI_add (40 * j_1) ii)
            refine lv_iconst (v := 0) hx hb dX8_row_73 (by decide) ?_
            refine va_iast hx hb hK hP hD hS 3 0 rfl rfl (vp_in_nI (by omega) (by omega)) dX8_row_74 (fun H locs hP hD hS => ?_)
            generalize hg_26 : upd w_17 ((nI ((40 * j_1) + ii)) : Int32).toNatClampNeg 0 = g_26 at hP hD
            have hu_26 : g_26 = upd w_17 ((40 * j_1) + ii) 0 := (by rw [← hg_26, nI_clamp (by omega)])
            have hP : va_P (dC, dI) vwCl [(xo_8_rrriirrriiiiiiirrirrrrri mo m_la m_sz m_it ms mt m_st m_mv m_tp (nI mz) ml (nI mp) mk mv mb mw m_rd m_ac (nI ma) m_as m_wo m_ik m_ke m_tr (nI mx)), (xI m_la cI 8 g_11), (xI m_sz cI 8 g_12), (xI m_it cI 320 g_26)] H := hP
            have hD := dto hP hD
            refine lv_iinc (v := (nI (ii + 1))) (lv' := [(4, .int (nI (ii + 1))), (0, .ref mo), (1, .int (nI j_1)), (2, .int a1), (3, .int (nI j_10))]) hx hb dX8_row_75 hl (k := 0) rfl (nI_add ii 1) (by decide) rfl (fun ls hl => ?_)
            refine lv_goto (tgt := 55) hx hb dX8_row_78 (by decide) ?_
            exact ih (g_26) _ _ _ ⟨lv_sub hl [0, 1, 2, 3, 4] rfl, hP.sub (ws' := [(xo_8_rrriirrriiiiiiirrirrrrri mo m_la m_sz m_it ms mt m_st m_mv m_tp (nI mz) ml (nI mp) mk mv mb mw m_rd m_ac (nI ma) m_as m_wo m_ik m_ke m_tr (nI mx)), (xI m_la cI 8 g_11), (xI m_sz cI 8 g_12), (xI m_it cI 320 g_26)]) [0, 1, 2, 3] rfl, hD.sub (ws' := [(xo_8_rrriirrriiiiiiirrirrrrri mo m_la m_sz m_it ms mt m_st m_mv m_tp (nI mz) ml (nI mp) mk mv mb mw m_rd m_ac (nI ma) m_as m_wo m_ik m_ke m_tr (nI mx)), (xI m_la cI 8 g_11), (xI m_sz cI 8 g_12), (xI m_it cI 320 g_26)]) [0, 1, 2, 3] (by decide +kernel) rfl, hS, (cp_d (src := fun _ => 0) (a := 40 * j_1) haf_0 (by omega) rfl hg_26), (cp_do (a := 40 * j_1) (n := 40) haf_1 (by omega) (by omega) hg_26)⟩
          · rintro w_17 H locs ls ⟨hl, hP, hD, hS, haf_0, haf_1⟩
            refine lv_iload hx hb dX8_row_55 (lv_at hl 0 rfl) ?_
            refine lv_bipush (v := 40) hx hb dX8_row_57 (by decide) ?_
            refine lv_icmp_ge (tgt := 81) hx hb dX8_row_59 (by decide) (fun _ => ?_) (fun c_ => absurd ((nI_leI (a := 40) (b := 40) (by omega) (by omega)).mpr (by omega)) c_)
            refine lv_aload_n hx hb dX8_row_81 rfl (lv_at hl 1 rfl) ?_
            refine lv_iload_n hx hb dX8_row_82 rfl (lv_at hl 4 rfl) ?_
            have hc_28 := cutW (wc := [(xo_8_rrriirrriiiiiiirrirrrrri mo m_la m_sz m_it ms mt m_st m_mv m_tp (nI mz) ml (nI mp) mk mv mb mw m_rd m_ac (nI ma) m_as m_wo m_ik m_ke m_tr (nI mx))]) hP hD hS hA [0] (by decide +kernel) rfl
            refine va_calli (va_runV (As := [.int (nI j_10)]) (rest := []) ⟨hx, hb, hml, hown, hts⟩ (r_X8_well l dC dI cI cZ cL cJ H.size mo m_la m_sz m_it m_st m_mv m_tp m_rd m_ac m_as m_wo m_ik m_ke m_tr ms mt ml mk mv mb mw mz mp ma mx (nI j_10) ) (cwV 1 hts gX8_row_X8_well rfl rfl rfl (by decide +kernel) ⟨Nat.le_of_ble_eq_true rfl, Nat.le_of_ble_eq_true rfl⟩) (pvW 8 0 hK hP rfl rfl hc_28) rfl rfl hl.1 rfl (lv_room (Nat.le_of_ble_eq_true rfl)) dX8_row_83 ⟨Nat.le_of_ble_eq_true rfl, Nat.le_of_ble_eq_true rfl⟩) hS (fun q _ h => hc_28.2.2 q h) hc_28.2.2 (fun r_28 u_28 t_28 H1 locs ht hvm h_28 hB hz1 hk1 hS => ?_)
            refine xl_1_3 hB (fun msn_28 hP1 hD1 hF_28_0 => ?_)
            clear hB
            rw [ht] at hP1
            obtain ⟨hP, hD⟩ := va_join (wr := [(xI m_la cI 8 g_11), (xI m_sz cI 8 g_12), (xI m_it cI 320 w_17)]) (w1 := [(xo_8_rrriirrriiiiiiirrirrrrri mo m_la m_sz m_it msn_28 mt m_st m_mv m_tp (nI mz) ml (nI mp) mk mv mb mw m_rd m_ac (nI ma) m_as m_wo m_ik m_ke m_tr (nI mx))]) hP hD [0] [1, 2, 3] rfl rfl (by decide +kernel) (by decide +kernel) hk1 hc_28.2.2 hP1 hD1
            generalize H1 = H at hP hS ⊢
            have hP : va_P (dC, dI) vwCl [(xI m_la cI 8 g_11), (xI m_sz cI 8 g_12), (xI m_it cI 320 w_17), (xo_8_rrriirrriiiiiiirrirrrrri mo m_la m_sz m_it msn_28 mt m_st m_mv m_tp (nI mz) ml (nI mp) mk mv mb mw m_rd m_ac (nI ma) m_as m_wo m_ik m_ke m_tr (nI mx))] H := hP
            have hD := dto hP hD
            have hX9 := cut2 (wc := [(xo_8_rrriirrriiiiiiirrirrrrri mo m_la m_sz m_it msn_28 mt m_st m_mv m_tp (nI mz) ml (nI mp) mk mv mb mw m_rd m_ac (nI ma) m_as m_wo m_ik m_ke m_tr (nI mx)), (xI m_la cI 8 g_11), (xI m_sz cI 8 g_12), (xI m_it cI 320 w_17)]) hP hD [3, 0, 1, 2] (by decide +kernel) rfl
            exact W.iret (v := r_28) hx hb hr (fun t ht hW => ⟨⟨r_28, (), rfl, (h_28.trans (ar_5 (vp_in_nI hj_1 (by decide)) f_5_1_0 c_8 c_9)), ⟨g_11, g_12, w_17, msn_28, va_Ht ht hX9.1, hX9.2, hsu, (lf_X8_row_11 hsz9 hln9 hj_1 f_5_1_0 c_8 c_9 hj_10 hu_11 hu_12 haf_0 haf_1 hF_28_0 h_28), (lf_X8_row_12 hsz9 hln9 hj_1 f_5_1_0 c_8 c_9 hj_10 hu_11 hu_12 haf_0 haf_1 hF_28_0 h_28), (lf_X8_row_13 hsz9 hln9 hj_1 f_5_1_0 c_8 c_9 hj_10 hu_11 hu_12 haf_0 haf_1 hF_28_0 h_28), (lf_X8_row_14 hsz9 hln9 hj_1 f_5_1_0 c_8 c_9 hj_10 hu_11 hu_12 haf_0 haf_1 hF_28_0 h_28), (lf_X8_row_15 hsz9 hln9 hj_1 f_5_1_0 c_8 c_9 hj_10 hu_11 hu_12 haf_0 haf_1 hF_28_0 h_28)⟩⟩, hS.F ht⟩) hS.2.2 dX8_row_86
        · skip
          refine lv_aload_n hx hb dX8_row_32 rfl (lv_at hl 0 rfl) ?_
          refine lv_iconst (v := 4) hx hb dX8_row_33 (by decide) ?_
          have hc_29 := cutW (wc := [(xo_8_rrriirrriiiiiiirrirrrrri mo m_la m_sz m_it ms mt m_st m_mv m_tp (nI mz) ml (nI mp) mk mv mb mw m_rd m_ac (nI ma) m_as m_wo m_ik m_ke m_tr (nI mx))]) hP hD hS hA [0] (by decide +kernel) rfl
          refine va_calli (va_runV (As := [.int 4]) (rest := []) ⟨hx, hb, hml, hown, hts⟩ (r_X8_find l dC dI cI cZ cL cJ s.heap.size mo m_la m_sz m_it m_st m_mv m_tp m_rd m_ac m_as m_wo m_ik m_ke m_tr ms mt ml mk mv mb mw mz mp ma mx 4 ) (cwV 1 hts gX8_row_X8_find rfl rfl rfl (by decide +kernel) ⟨Nat.le_of_ble_eq_true rfl, Nat.le_of_ble_eq_true rfl⟩) (pvW 8 0 hK hP rfl rfl hc_29) rfl rfl hl.1 rfl (lv_room (Nat.le_of_ble_eq_true rfl)) dX8_row_34 ⟨Nat.le_of_ble_eq_true rfl, Nat.le_of_ble_eq_true rfl⟩) hS (fun q _ h => hc_29.2.2 q h) hc_29.2.2 (fun r_29 u_29 t_29 H1 locs ht hvm h_29 hB hz1 hk1 hS => ?_)
          refine xl_1_3 hB (fun msn_29 hP1 hD1 hF_29_0 => ?_)
          clear hB
          rw [ht] at hP1
          obtain ⟨hP, hD⟩ := va_join (wr := [(xI m_la cI 8 fn_), (xI m_sz cI 8 fz), (xI m_it cI 320 fi_)]) (w1 := [(xo_8_rrriirrriiiiiiirrirrrrri mo m_la m_sz m_it msn_29 mt m_st m_mv m_tp (nI mz) ml (nI mp) mk mv mb mw m_rd m_ac (nI ma) m_as m_wo m_ik m_ke m_tr (nI mx))]) hP hD [0] [1, 2, 3] rfl rfl (by decide +kernel) (by decide +kernel) hk1 hc_29.2.2 hP1 hD1
          generalize H1 = H at hP hS ⊢
          have hP : va_P (dC, dI) vwCl [(xI m_la cI 8 fn_), (xI m_sz cI 8 fz), (xI m_it cI 320 fi_), (xo_8_rrriirrriiiiiiirrirrrrri mo m_la m_sz m_it msn_29 mt m_st m_mv m_tp (nI mz) ml (nI mp) mk mv mb mw m_rd m_ac (nI ma) m_as m_wo m_ik m_ke m_tr (nI mx))] H := hP
          have hD := dto hP hD
          have hX9 := cut2 (wc := [(xo_8_rrriirrriiiiiiirrirrrrri mo m_la m_sz m_it msn_29 mt m_st m_mv m_tp (nI mz) ml (nI mp) mk mv mb mw m_rd m_ac (nI ma) m_as m_wo m_ik m_ke m_tr (nI mx)), (xI m_la cI 8 fn_), (xI m_sz cI 8 fz), (xI m_it cI 320 fi_)]) hP hD [3, 0, 1, 2] (by decide +kernel) rfl
          exact W.iret (v := r_29) hx hb hr (fun t ht hW => ⟨⟨r_29, (), rfl, (h_29.trans (ar_4 (vp_in_nI hj_1 (by decide)) f_5_1_0 c_8 c_9)), ⟨fn_, fz, fi_, msn_29, va_Ht ht hX9.1, hX9.2, hsz9, (lf_X8_row_16 hsz9 hln9 hj_1 f_5_1_0 c_8 c_9 hF_29_0 h_29), (lf_X8_row_17 hsz9 hln9 hj_1 f_5_1_0 c_8 c_9 hF_29_0 h_29), (lf_X8_row_18 hsz9 hln9 hj_1 f_5_1_0 c_8 c_9 hF_29_0 h_29), (lf_X8_row_19 hsz9 hln9 hj_1 f_5_1_0 c_8 c_9 hF_29_0 h_29), (lf_X8_row_20 hsz9 hln9 hj_1 f_5_1_0 c_8 c_9 hF_29_0 h_29)⟩⟩, hS.F ht⟩) hS.2.2 dX8_row_37
      · skip
        refine lv_ldc (own := RX8) (v := (-1000001)) hx hb hown (hts _ mx_X8_row_2) dX8_row_25 ?_
        have hX9 := cut2 (wc := [(xo_8_rrriirrriiiiiiirrirrrrri mo m_la m_sz m_it ms mt m_st m_mv m_tp (nI mz) ml (nI mp) mk mv mb mw m_rd m_ac (nI ma) m_as m_wo m_ik m_ke m_tr (nI mx)), (xI m_la cI 8 fn_), (xI m_sz cI 8 fz), (xI m_it cI 320 fi_)]) hP hD [0, 1, 2, 3] (by decide +kernel) rfl
        exact W.iret (v := (-1000001)) hx hb hr (fun t ht hW => ⟨⟨(-1000001), (), rfl, (ar_3 c_8), ⟨fn_, fz, fi_, ms, va_Ht ht hX9.1, hX9.2, hsz9, (lf_X8_row_21 hsz9 hln9 hj_1 f_5_1_0 c_8), (lf_X8_row_22 hsz9 hln9 hj_1 f_5_1_0 c_8), (lf_X8_row_23 hsz9 hln9 hj_1 f_5_1_0 c_8), (lf_X8_row_24 hsz9 hln9 hj_1 f_5_1_0 c_8), (lf_X8_row_25 hsz9 hln9 hj_1 f_5_1_0 c_8)⟩⟩, hS.F ht⟩) hS.2.2 dX8_row_27
theorem lf_X8_set_1 {fn_ : Nat → Int32} {fz : Nat → Int32} {fi_ : Nat → Int32} {a0 : Int32} {a1 : Int32} {a2 : Int32} (hsz9 : ∀ j : Nat, j < 8 → fz j = -1 ∨ ∃ q : Nat, q ≤ 40 ∧ fz j = nI q) (hln9 : ∀ j : Nat, j < 8 → ¬ fz j = -1 → ¬ fn_ j = -1) (f_1_0_0 : (a0 < 0 ∨ 8 ≤ a0)) : itM fi_ = n_its (mbl fn_ fz) (mbn fz) (itM fi_) a0 a1 a2 := by
  first
  | with_reducible exact (fs_0 (by assumption)).symm
  | with_reducible exact (its_0 (by assumption)).symm
  | with_reducible exact ys_1 (by assumption) (by assumption) (by assumption)
  | with_reducible exact yi_1 (by assumption) (by assumption)
  | with_reducible exact ys_2 hln9 (by assumption) (by assumption) (by assumption) (by assumption) (by assumption) (by assumption)
  | with_reducible exact yi_2 (by assumption) (by assumption) (by assumption) (by assumption) (by assumption)
  | with_reducible exact ys_3 hln9 (by assumption) (by assumption) (by assumption) (by assumption) (by assumption) (by assumption)
  | with_reducible exact yi_3 hln9 (by assumption) (by assumption) (by assumption) (by assumption) (by assumption) (by omega) (by assumption) (by assumption) (by assumption) (by omega)
  | with_reducible exact (ar_set_0 (by assumption)).symm
  | (subst_vars; with_reducible exact (am_set_1 (by assumption) (by assumption)).symm)
  | (refine Eq.trans (by assumption) (am_set_2 hln9 (by assumption) (by assumption) (by assumption) (by assumption) (by assumption)).symm)
  | (with_reducible exact am_set_3 hln9 (by assumption) (by assumption) (by assumption) (by assumption) (by assumption) (by assumption) (by assumption) (by assumption) (by assumption) (by assumption))
theorem lf_X8_set_2 {ms : Int32} {fn_ : Nat → Int32} {fz : Nat → Int32} {a0 : Int32} {a1 : Int32} (hsz9 : ∀ j : Nat, j < 8 → fz j = -1 ∨ ∃ q : Nat, q ≤ 40 ∧ fz j = nI q) (hln9 : ∀ j : Nat, j < 8 → ¬ fz j = -1 → ¬ fn_ j = -1) (f_1_0_0 : (a0 < 0 ∨ 8 ≤ a0)) : ms = f_set (mbl fn_ fz) (mbn fz) a0 a1 ms := by
  first
  | with_reducible exact (fs_0 (by assumption)).symm
  | with_reducible exact (its_0 (by assumption)).symm
  | with_reducible exact ys_1 (by assumption) (by assumption) (by assumption)
  | with_reducible exact yi_1 (by assumption) (by assumption)
  | with_reducible exact ys_2 hln9 (by assumption) (by assumption) (by assumption) (by assumption) (by assumption) (by assumption)
  | with_reducible exact yi_2 (by assumption) (by assumption) (by assumption) (by assumption) (by assumption)
  | with_reducible exact ys_3 hln9 (by assumption) (by assumption) (by assumption) (by assumption) (by assumption) (by assumption)
  | with_reducible exact yi_3 hln9 (by assumption) (by assumption) (by assumption) (by assumption) (by assumption) (by omega) (by assumption) (by assumption) (by assumption) (by omega)
  | with_reducible exact (ar_set_0 (by assumption)).symm
  | (subst_vars; with_reducible exact (am_set_1 (by assumption) (by assumption)).symm)
  | (refine Eq.trans (by assumption) (am_set_2 hln9 (by assumption) (by assumption) (by assumption) (by assumption) (by assumption)).symm)
  | (with_reducible exact am_set_3 hln9 (by assumption) (by assumption) (by assumption) (by assumption) (by assumption) (by assumption) (by assumption) (by assumption) (by assumption) (by assumption))
theorem lf_X8_set_3 {fn_ : Nat → Int32} {fz : Nat → Int32} {a0 : Int32} {a1 : Int32} {a2 : Int32} (hsz9 : ∀ j : Nat, j < 8 → fz j = -1 ∨ ∃ q : Nat, q ≤ 40 ∧ fz j = nI q) (hln9 : ∀ j : Nat, j < 8 → ¬ fz j = -1 → ¬ fn_ j = -1) (f_1_0_0 : (a0 < 0 ∨ 8 ≤ a0)) : (-1000001) = (ar_set (mbl fn_ fz) (mbn fz) a0 a1 a2) := by
  first
  | with_reducible exact (fs_0 (by assumption)).symm
  | with_reducible exact (its_0 (by assumption)).symm
  | with_reducible exact ys_1 (by assumption) (by assumption) (by assumption)
  | with_reducible exact yi_1 (by assumption) (by assumption)
  | with_reducible exact ys_2 hln9 (by assumption) (by assumption) (by assumption) (by assumption) (by assumption) (by assumption)
  | with_reducible exact yi_2 (by assumption) (by assumption) (by assumption) (by assumption) (by assumption)
  | with_reducible exact ys_3 hln9 (by assumption) (by assumption) (by assumption) (by assumption) (by assumption) (by assumption)
  | with_reducible exact yi_3 hln9 (by assumption) (by assumption) (by assumption) (by assumption) (by assumption) (by omega) (by assumption) (by assumption) (by assumption) (by omega)
  | with_reducible exact (ar_set_0 (by assumption)).symm
  | (subst_vars; with_reducible exact (am_set_1 (by assumption) (by assumption)).symm)
  | (refine Eq.trans (by assumption) (am_set_2 hln9 (by assumption) (by assumption) (by assumption) (by assumption) (by assumption)).symm)
  | (with_reducible exact am_set_3 hln9 (by assumption) (by assumption) (by assumption) (by assumption) (by assumption) (by assumption) (by assumption) (by assumption) (by assumption) (by assumption))
theorem lf_X8_set_4 {fn_ : Nat → Int32} {fz : Nat → Int32} {fi_ : Nat → Int32} {a1 : Int32} {a2 : Int32} {j_1 : Nat} {msn_7 : Int32} {r_7 : Int32} (hsz9 : ∀ j : Nat, j < 8 → fz j = -1 ∨ ∃ q : Nat, q ≤ 40 ∧ fz j = nI q) (hln9 : ∀ j : Nat, j < 8 → ¬ fz j = -1 → ¬ fn_ j = -1) (hj_1 : j_1 < 8) (hs_5 : fz j_1 = -1) (hF_7_0 : (msn_7 : Int32) = 1) (h_7 : r_7 = (-1000010 - 1)) : itM fi_ = n_its (mbl fn_ fz) (mbn fz) (itM fi_) (nI j_1) a1 a2 := by
  first
  | with_reducible exact (fs_0 (by assumption)).symm
  | with_reducible exact (its_0 (by assumption)).symm
  | with_reducible exact ys_1 (by assumption) (by assumption) (by assumption)
  | with_reducible exact yi_1 (by assumption) (by assumption)
  | with_reducible exact ys_2 hln9 (by assumption) (by assumption) (by assumption) (by assumption) (by assumption) (by assumption)
  | with_reducible exact yi_2 (by assumption) (by assumption) (by assumption) (by assumption) (by assumption)
  | with_reducible exact ys_3 hln9 (by assumption) (by assumption) (by assumption) (by assumption) (by assumption) (by assumption)
  | with_reducible exact yi_3 hln9 (by assumption) (by assumption) (by assumption) (by assumption) (by assumption) (by omega) (by assumption) (by assumption) (by assumption) (by omega)
  | with_reducible exact (ar_set_0 (by assumption)).symm
  | (subst_vars; with_reducible exact (am_set_1 (by assumption) (by assumption)).symm)
  | (refine Eq.trans (by assumption) (am_set_2 hln9 (by assumption) (by assumption) (by assumption) (by assumption) (by assumption)).symm)
  | (with_reducible exact am_set_3 hln9 (by assumption) (by assumption) (by assumption) (by assumption) (by assumption) (by assumption) (by assumption) (by assumption) (by assumption) (by assumption))
theorem lf_X8_set_5 {ms : Int32} {fn_ : Nat → Int32} {fz : Nat → Int32} {a1 : Int32} {j_1 : Nat} {msn_7 : Int32} {r_7 : Int32} (hsz9 : ∀ j : Nat, j < 8 → fz j = -1 ∨ ∃ q : Nat, q ≤ 40 ∧ fz j = nI q) (hln9 : ∀ j : Nat, j < 8 → ¬ fz j = -1 → ¬ fn_ j = -1) (hj_1 : j_1 < 8) (hs_5 : fz j_1 = -1) (hF_7_0 : (msn_7 : Int32) = 1) (h_7 : r_7 = (-1000010 - 1)) : msn_7 = f_set (mbl fn_ fz) (mbn fz) (nI j_1) a1 ms := by
  first
  | with_reducible exact (fs_0 (by assumption)).symm
  | with_reducible exact (its_0 (by assumption)).symm
  | with_reducible exact ys_1 (by assumption) (by assumption) (by assumption)
  | with_reducible exact yi_1 (by assumption) (by assumption)
  | with_reducible exact ys_2 hln9 (by assumption) (by assumption) (by assumption) (by assumption) (by assumption) (by assumption)
  | with_reducible exact yi_2 (by assumption) (by assumption) (by assumption) (by assumption) (by assumption)
  | with_reducible exact ys_3 hln9 (by assumption) (by assumption) (by assumption) (by assumption) (by assumption) (by assumption)
  | with_reducible exact yi_3 hln9 (by assumption) (by assumption) (by assumption) (by assumption) (by assumption) (by omega) (by assumption) (by assumption) (by assumption) (by omega)
  | with_reducible exact (ar_set_0 (by assumption)).symm
  | (subst_vars; with_reducible exact (am_set_1 (by assumption) (by assumption)).symm)
  | (refine Eq.trans (by assumption) (am_set_2 hln9 (by assumption) (by assumption) (by assumption) (by assumption) (by assumption)).symm)
  | (with_reducible exact am_set_3 hln9 (by assumption) (by assumption) (by assumption) (by assumption) (by assumption) (by assumption) (by assumption) (by assumption) (by assumption) (by assumption))
theorem lf_X8_set_6 {fn_ : Nat → Int32} {fz : Nat → Int32} {a1 : Int32} {a2 : Int32} {j_1 : Nat} {msn_7 : Int32} {r_7 : Int32} (hsz9 : ∀ j : Nat, j < 8 → fz j = -1 ∨ ∃ q : Nat, q ≤ 40 ∧ fz j = nI q) (hln9 : ∀ j : Nat, j < 8 → ¬ fz j = -1 → ¬ fn_ j = -1) (hj_1 : j_1 < 8) (hs_5 : fz j_1 = -1) (hF_7_0 : (msn_7 : Int32) = 1) (h_7 : r_7 = (-1000010 - 1)) : r_7 = (ar_set (mbl fn_ fz) (mbn fz) (nI j_1) a1 a2) := by
  first
  | with_reducible exact (fs_0 (by assumption)).symm
  | with_reducible exact (its_0 (by assumption)).symm
  | with_reducible exact ys_1 (by assumption) (by assumption) (by assumption)
  | with_reducible exact yi_1 (by assumption) (by assumption)
  | with_reducible exact ys_2 hln9 (by assumption) (by assumption) (by assumption) (by assumption) (by assumption) (by assumption)
  | with_reducible exact yi_2 (by assumption) (by assumption) (by assumption) (by assumption) (by assumption)
  | with_reducible exact ys_3 hln9 (by assumption) (by assumption) (by assumption) (by assumption) (by assumption) (by assumption)
  | with_reducible exact yi_3 hln9 (by assumption) (by assumption) (by assumption) (by assumption) (by assumption) (by omega) (by assumption) (by assumption) (by assumption) (by omega)
  | with_reducible exact (ar_set_0 (by assumption)).symm
  | (subst_vars; with_reducible exact (am_set_1 (by assumption) (by assumption)).symm)
  | (refine Eq.trans (by assumption) (am_set_2 hln9 (by assumption) (by assumption) (by assumption) (by assumption) (by assumption)).symm)
  | (with_reducible exact am_set_3 hln9 (by assumption) (by assumption) (by assumption) (by assumption) (by assumption) (by assumption) (by assumption) (by assumption) (by assumption) (by assumption))
theorem lf_X8_set_7 {fn_ : Nat → Int32} {fz : Nat → Int32} {fi_ : Nat → Int32} {a1 : Int32} {a2 : Int32} {j_1 : Nat} {q_5 : Nat} {v_10 : Int32} {msn_13 : Int32} {r_13 : Int32} (hsz9 : ∀ j : Nat, j < 8 → fz j = -1 ∨ ∃ q : Nat, q ≤ 40 ∧ fz j = nI q) (hln9 : ∀ j : Nat, j < 8 → ¬ fz j = -1 → ¬ fn_ j = -1) (hj_1 : j_1 < 8) (hs_5 : fz j_1 = nI q_5) (hq_5 : q_5 ≤ 40) (e_10 : v_10 = ((nI q_5) - 1)) (f_11_0_0 : ((a1).toInt64 < 0 ∨ (v_10).toInt64 < (a1).toInt64)) (q_11 : (a1 < 0 ∨ v_10 < a1)) (hF_13_0 : (msn_13 : Int32) = 2) (h_13 : r_13 = (-1000010 - 2)) : itM fi_ = n_its (mbl fn_ fz) (mbn fz) (itM fi_) (nI j_1) a1 a2 := by
  first
  | with_reducible exact (fs_0 (by assumption)).symm
  | with_reducible exact (its_0 (by assumption)).symm
  | with_reducible exact ys_1 (by assumption) (by assumption) (by assumption)
  | with_reducible exact yi_1 (by assumption) (by assumption)
  | with_reducible exact ys_2 hln9 (by assumption) (by assumption) (by assumption) (by assumption) (by assumption) (by assumption)
  | with_reducible exact yi_2 (by assumption) (by assumption) (by assumption) (by assumption) (by assumption)
  | with_reducible exact ys_3 hln9 (by assumption) (by assumption) (by assumption) (by assumption) (by assumption) (by assumption)
  | with_reducible exact yi_3 hln9 (by assumption) (by assumption) (by assumption) (by assumption) (by assumption) (by omega) (by assumption) (by assumption) (by assumption) (by omega)
  | with_reducible exact (ar_set_0 (by assumption)).symm
  | (subst_vars; with_reducible exact (am_set_1 (by assumption) (by assumption)).symm)
  | (refine Eq.trans (by assumption) (am_set_2 hln9 (by assumption) (by assumption) (by assumption) (by assumption) (by assumption)).symm)
  | (with_reducible exact am_set_3 hln9 (by assumption) (by assumption) (by assumption) (by assumption) (by assumption) (by assumption) (by assumption) (by assumption) (by assumption) (by assumption))
theorem lf_X8_set_8 {ms : Int32} {fn_ : Nat → Int32} {fz : Nat → Int32} {a1 : Int32} {j_1 : Nat} {q_5 : Nat} {v_10 : Int32} {msn_13 : Int32} {r_13 : Int32} (hsz9 : ∀ j : Nat, j < 8 → fz j = -1 ∨ ∃ q : Nat, q ≤ 40 ∧ fz j = nI q) (hln9 : ∀ j : Nat, j < 8 → ¬ fz j = -1 → ¬ fn_ j = -1) (hj_1 : j_1 < 8) (hs_5 : fz j_1 = nI q_5) (hq_5 : q_5 ≤ 40) (e_10 : v_10 = ((nI q_5) - 1)) (f_11_0_0 : ((a1).toInt64 < 0 ∨ (v_10).toInt64 < (a1).toInt64)) (q_11 : (a1 < 0 ∨ v_10 < a1)) (hF_13_0 : (msn_13 : Int32) = 2) (h_13 : r_13 = (-1000010 - 2)) : msn_13 = f_set (mbl fn_ fz) (mbn fz) (nI j_1) a1 ms := by
  first
  | with_reducible exact (fs_0 (by assumption)).symm
  | with_reducible exact (its_0 (by assumption)).symm
  | with_reducible exact ys_1 (by assumption) (by assumption) (by assumption)
  | with_reducible exact yi_1 (by assumption) (by assumption)
  | with_reducible exact ys_2 hln9 (by assumption) (by assumption) (by assumption) (by assumption) (by assumption) (by assumption)
  | with_reducible exact yi_2 (by assumption) (by assumption) (by assumption) (by assumption) (by assumption)
  | with_reducible exact ys_3 hln9 (by assumption) (by assumption) (by assumption) (by assumption) (by assumption) (by assumption)
  | with_reducible exact yi_3 hln9 (by assumption) (by assumption) (by assumption) (by assumption) (by assumption) (by omega) (by assumption) (by assumption) (by assumption) (by omega)
  | with_reducible exact (ar_set_0 (by assumption)).symm
  | (subst_vars; with_reducible exact (am_set_1 (by assumption) (by assumption)).symm)
  | (refine Eq.trans (by assumption) (am_set_2 hln9 (by assumption) (by assumption) (by assumption) (by assumption) (by assumption)).symm)
  | (with_reducible exact am_set_3 hln9 (by assumption) (by assumption) (by assumption) (by assumption) (by assumption) (by assumption) (by assumption) (by assumption) (by assumption) (by assumption))
theorem lf_X8_set_9 {fn_ : Nat → Int32} {fz : Nat → Int32} {a1 : Int32} {a2 : Int32} {j_1 : Nat} {q_5 : Nat} {v_10 : Int32} {msn_13 : Int32} {r_13 : Int32} (hsz9 : ∀ j : Nat, j < 8 → fz j = -1 ∨ ∃ q : Nat, q ≤ 40 ∧ fz j = nI q) (hln9 : ∀ j : Nat, j < 8 → ¬ fz j = -1 → ¬ fn_ j = -1) (hj_1 : j_1 < 8) (hs_5 : fz j_1 = nI q_5) (hq_5 : q_5 ≤ 40) (e_10 : v_10 = ((nI q_5) - 1)) (f_11_0_0 : ((a1).toInt64 < 0 ∨ (v_10).toInt64 < (a1).toInt64)) (q_11 : (a1 < 0 ∨ v_10 < a1)) (hF_13_0 : (msn_13 : Int32) = 2) (h_13 : r_13 = (-1000010 - 2)) : r_13 = (ar_set (mbl fn_ fz) (mbn fz) (nI j_1) a1 a2) := by
  first
  | with_reducible exact (fs_0 (by assumption)).symm
  | with_reducible exact (its_0 (by assumption)).symm
  | with_reducible exact ys_1 (by assumption) (by assumption) (by assumption)
  | with_reducible exact yi_1 (by assumption) (by assumption)
  | with_reducible exact ys_2 hln9 (by assumption) (by assumption) (by assumption) (by assumption) (by assumption) (by assumption)
  | with_reducible exact yi_2 (by assumption) (by assumption) (by assumption) (by assumption) (by assumption)
  | with_reducible exact ys_3 hln9 (by assumption) (by assumption) (by assumption) (by assumption) (by assumption) (by assumption)
  | with_reducible exact yi_3 hln9 (by assumption) (by assumption) (by assumption) (by assumption) (by assumption) (by omega) (by assumption) (by assumption) (by assumption) (by omega)
  | with_reducible exact (ar_set_0 (by assumption)).symm
  | (subst_vars; with_reducible exact (am_set_1 (by assumption) (by assumption)).symm)
  | (refine Eq.trans (by assumption) (am_set_2 hln9 (by assumption) (by assumption) (by assumption) (by assumption) (by assumption)).symm)
  | (with_reducible exact am_set_3 hln9 (by assumption) (by assumption) (by assumption) (by assumption) (by assumption) (by assumption) (by assumption) (by assumption) (by assumption) (by assumption))
theorem lf_X8_set_10 {fn_ : Nat → Int32} {fz : Nat → Int32} {fi_ : Nat → Int32} {a2 : Int32} {j_1 : Nat} {q_5 : Nat} {v_10 : Int32} {j_11 : Nat} {v_17 : Int32} {r_18 : Int32} {g_19 : Nat → Int32} {v_22 : Int32} {msn_23 : Int32} {r_23 : Int32} (hsz9 : ∀ j : Nat, j < 8 → fz j = -1 ∨ ∃ q : Nat, q ≤ 40 ∧ fz j = nI q) (hln9 : ∀ j : Nat, j < 8 → ¬ fz j = -1 → ¬ fn_ j = -1) (hj_1 : j_1 < 8) (hs_5 : fz j_1 = nI q_5) (hq_5 : q_5 ≤ 40) (e_10 : v_10 = ((nI q_5) - 1)) (f_11_1_0 : (¬ (((nI j_11)).toInt64 < 0 ∨ (v_10).toInt64 < ((nI j_11)).toInt64))) (q_11 : ¬ ((nI j_11) < 0 ∨ v_10 < (nI j_11))) (hj_11 : j_11 < q_5) (e_17 : v_17 = fn_ j_1) (h_18 : r_18 = (laneM v_17 a2)) (hu_19 : g_19 = upd fi_ ((40 * j_1) + j_11) r_18) (e_22 : v_22 = g_19 ((40 * j_1) + j_11)) (hF_23_0 : (msn_23 : Int32) = 0) (h_23 : r_23 = v_22) : itM g_19 = n_its (mbl fn_ fz) (mbn fz) (itM fi_) (nI j_1) (nI j_11) a2 := by
  first
  | with_reducible exact (fs_0 (by assumption)).symm
  | with_reducible exact (its_0 (by assumption)).symm
  | with_reducible exact ys_1 (by assumption) (by assumption) (by assumption)
  | with_reducible exact yi_1 (by assumption) (by assumption)
  | with_reducible exact ys_2 hln9 (by assumption) (by assumption) (by assumption) (by assumption) (by assumption) (by assumption)
  | with_reducible exact yi_2 (by assumption) (by assumption) (by assumption) (by assumption) (by assumption)
  | with_reducible exact ys_3 hln9 (by assumption) (by assumption) (by assumption) (by assumption) (by assumption) (by assumption)
  | with_reducible exact yi_3 hln9 (by assumption) (by assumption) (by assumption) (by assumption) (by assumption) (by omega) (by assumption) (by assumption) (by assumption) (by omega)
  | with_reducible exact (ar_set_0 (by assumption)).symm
  | (subst_vars; with_reducible exact (am_set_1 (by assumption) (by assumption)).symm)
  | (refine Eq.trans (by assumption) (am_set_2 hln9 (by assumption) (by assumption) (by assumption) (by assumption) (by assumption)).symm)
  | (with_reducible exact am_set_3 hln9 (by assumption) (by assumption) (by assumption) (by assumption) (by assumption) (by assumption) (by assumption) (by assumption) (by assumption) (by assumption))
theorem lf_X8_set_11 {ms : Int32} {fn_ : Nat → Int32} {fz : Nat → Int32} {fi_ : Nat → Int32} {a2 : Int32} {j_1 : Nat} {q_5 : Nat} {v_10 : Int32} {j_11 : Nat} {v_17 : Int32} {r_18 : Int32} {g_19 : Nat → Int32} {v_22 : Int32} {msn_23 : Int32} {r_23 : Int32} (hsz9 : ∀ j : Nat, j < 8 → fz j = -1 ∨ ∃ q : Nat, q ≤ 40 ∧ fz j = nI q) (hln9 : ∀ j : Nat, j < 8 → ¬ fz j = -1 → ¬ fn_ j = -1) (hj_1 : j_1 < 8) (hs_5 : fz j_1 = nI q_5) (hq_5 : q_5 ≤ 40) (e_10 : v_10 = ((nI q_5) - 1)) (f_11_1_0 : (¬ (((nI j_11)).toInt64 < 0 ∨ (v_10).toInt64 < ((nI j_11)).toInt64))) (q_11 : ¬ ((nI j_11) < 0 ∨ v_10 < (nI j_11))) (hj_11 : j_11 < q_5) (e_17 : v_17 = fn_ j_1) (h_18 : r_18 = (laneM v_17 a2)) (hu_19 : g_19 = upd fi_ ((40 * j_1) + j_11) r_18) (e_22 : v_22 = g_19 ((40 * j_1) + j_11)) (hF_23_0 : (msn_23 : Int32) = 0) (h_23 : r_23 = v_22) : msn_23 = f_set (mbl fn_ fz) (mbn fz) (nI j_1) (nI j_11) ms := by
  first
  | with_reducible exact (fs_0 (by assumption)).symm
  | with_reducible exact (its_0 (by assumption)).symm
  | with_reducible exact ys_1 (by assumption) (by assumption) (by assumption)
  | with_reducible exact yi_1 (by assumption) (by assumption)
  | with_reducible exact ys_2 hln9 (by assumption) (by assumption) (by assumption) (by assumption) (by assumption) (by assumption)
  | with_reducible exact yi_2 (by assumption) (by assumption) (by assumption) (by assumption) (by assumption)
  | with_reducible exact ys_3 hln9 (by assumption) (by assumption) (by assumption) (by assumption) (by assumption) (by assumption)
  | with_reducible exact yi_3 hln9 (by assumption) (by assumption) (by assumption) (by assumption) (by assumption) (by omega) (by assumption) (by assumption) (by assumption) (by omega)
  | with_reducible exact (ar_set_0 (by assumption)).symm
  | (subst_vars; with_reducible exact (am_set_1 (by assumption) (by assumption)).symm)
  | (refine Eq.trans (by assumption) (am_set_2 hln9 (by assumption) (by assumption) (by assumption) (by assumption) (by assumption)).symm)
  | (with_reducible exact am_set_3 hln9 (by assumption) (by assumption) (by assumption) (by assumption) (by assumption) (by assumption) (by assumption) (by assumption) (by assumption) (by assumption))
theorem lf_X8_set_12 {fn_ : Nat → Int32} {fz : Nat → Int32} {fi_ : Nat → Int32} {a2 : Int32} {j_1 : Nat} {q_5 : Nat} {v_10 : Int32} {j_11 : Nat} {v_17 : Int32} {r_18 : Int32} {g_19 : Nat → Int32} {v_22 : Int32} {msn_23 : Int32} {r_23 : Int32} (hsz9 : ∀ j : Nat, j < 8 → fz j = -1 ∨ ∃ q : Nat, q ≤ 40 ∧ fz j = nI q) (hln9 : ∀ j : Nat, j < 8 → ¬ fz j = -1 → ¬ fn_ j = -1) (hj_1 : j_1 < 8) (hs_5 : fz j_1 = nI q_5) (hq_5 : q_5 ≤ 40) (e_10 : v_10 = ((nI q_5) - 1)) (f_11_1_0 : (¬ (((nI j_11)).toInt64 < 0 ∨ (v_10).toInt64 < ((nI j_11)).toInt64))) (q_11 : ¬ ((nI j_11) < 0 ∨ v_10 < (nI j_11))) (hj_11 : j_11 < q_5) (e_17 : v_17 = fn_ j_1) (h_18 : r_18 = (laneM v_17 a2)) (hu_19 : g_19 = upd fi_ ((40 * j_1) + j_11) r_18) (e_22 : v_22 = g_19 ((40 * j_1) + j_11)) (hF_23_0 : (msn_23 : Int32) = 0) (h_23 : r_23 = v_22) : r_23 = (ar_set (mbl fn_ fz) (mbn fz) (nI j_1) (nI j_11) a2) := by
  first
  | with_reducible exact (fs_0 (by assumption)).symm
  | with_reducible exact (its_0 (by assumption)).symm
  | with_reducible exact ys_1 (by assumption) (by assumption) (by assumption)
  | with_reducible exact yi_1 (by assumption) (by assumption)
  | with_reducible exact ys_2 hln9 (by assumption) (by assumption) (by assumption) (by assumption) (by assumption) (by assumption)
  | with_reducible exact yi_2 (by assumption) (by assumption) (by assumption) (by assumption) (by assumption)
  | with_reducible exact ys_3 hln9 (by assumption) (by assumption) (by assumption) (by assumption) (by assumption) (by assumption)
  | with_reducible exact yi_3 hln9 (by assumption) (by assumption) (by assumption) (by assumption) (by assumption) (by omega) (by assumption) (by assumption) (by assumption) (by omega)
  | with_reducible exact (ar_set_0 (by assumption)).symm
  | (subst_vars; with_reducible exact (am_set_1 (by assumption) (by assumption)).symm)
  | (refine Eq.trans (by assumption) (am_set_2 hln9 (by assumption) (by assumption) (by assumption) (by assumption) (by assumption)).symm)
  | (with_reducible exact am_set_3 hln9 (by assumption) (by assumption) (by assumption) (by assumption) (by assumption) (by assumption) (by assumption) (by assumption) (by assumption) (by assumption))
set_option maxHeartbeats 4000000 in
set_option maxRecDepth 100000 in
theorem r_X8_set (l : Launch) (dC : Nat → ClassId) (dI : Nat → Nat → Nat) (cI cZ cL cJ : ClassId) (sz : Nat) (mo : Nat) (m_la : Nat) (m_sz : Nat) (m_it : Nat) (m_st : Nat) (m_mv : Nat) (m_tp : Nat) (m_rd : Nat) (m_ac : Nat) (m_as : Nat) (m_wo : Nat) (m_ik : Nat) (m_ke : Nat) (m_tr : Nat) (ms : Int32) (mt : Int32) (ml : Int32) (mk : Int32) (mv : Int32) (mb : Int32) (mw : Int32) (mz : Nat) (mp : Nat) (ma : Nat) (mx : Nat) (fn_ : Nat → Int32) (fz : Nat → Int32) (fi_ : Nat → Int32) (a0 : Int32) (a1 : Int32) (a2 : Int32) (hsz9 : ∀ j : Nat, j < 8 → fz j = -1 ∨ ∃ q : Nat, q ≤ 40 ∧ fz j = nI q) (hln9 : ∀ j : Nat, j < 8 → ¬ fz j = -1 → ¬ fn_ j = -1) : Met l yX8_set wsX8_set ({ frames := 2, cells := 0, slots := 0, locals := 45 }) (va_Pc [.ref mo, .int a0, .int a1, .int a2] (fun U => U.heap.size = sz ∧ va_P (dC, dI) vwCl [(xo_8_rrriirrriiiiiiirrirrrrri mo m_la m_sz m_it ms mt m_st m_mv m_tp (nI mz) ml (nI mp) mk mv mb mw m_rd m_ac (nI ma) m_as m_wo m_ik m_ke m_tr (nI mx)), (xI m_la cI 8 fn_), (xI m_sz cI 8 fz), (xI m_it cI 320 fi_)] U.heap ∧ va_K (dC, dI) vwCl [(cI, .int), (cZ, .boolean), (cL, .object RX3), (cJ, .array .int)] U ∧ va_D (fun _ => True) [(xo_8_rrriirrriiiiiiirrirrrrri mo m_la m_sz m_it ms mt m_st m_mv m_tp (nI mz) ml (nI mp) mk mv mb mw m_rd m_ac (nI ma) m_as m_wo m_ik m_ke m_tr (nI mx)), (xI m_la cI 8 fn_), (xI m_sz cI 8 fz), (xI m_it cI 320 fi_)])) (va_Qi (fun r (_ : Unit) => r = (ar_set (mbl fn_ fz) (mbn fz) a0 a1 a2)) (fun (_ : Unit) t => ∃ (fin_ : Nat → Int32) (msn : Int32), va_P (dC, dI) vwCl [(xo_8_rrriirrriiiiiiirrirrrrri mo m_la m_sz m_it msn mt m_st m_mv m_tp (nI mz) ml (nI mp) mk mv mb mw m_rd m_ac (nI ma) m_as m_wo m_ik m_ke m_tr (nI mx)), (xI m_la cI 8 fn_), (xI m_sz cI 8 fz), (xI m_it cI 320 fin_)] t.heap ∧ va_D (va_A [(xo_8_rrriirrriiiiiiirrirrrrri mo m_la m_sz m_it ms mt m_st m_mv m_tp (nI mz) ml (nI mp) mk mv mb mw m_rd m_ac (nI ma) m_as m_wo m_ik m_ke m_tr (nI mx)), (xI m_la cI 8 fn_), (xI m_sz cI 8 fz), (xI m_it cI 320 fi_)] sz) [(xo_8_rrriirrriiiiiiirrirrrrri mo m_la m_sz m_it msn mt m_st m_mv m_tp (nI mz) ml (nI mp) mk mv mb mw m_rd m_ac (nI ma) m_as m_wo m_ik m_ke m_tr (nI mx)), (xI m_la cI 8 fn_), (xI m_sz cI 8 fz), (xI m_it cI 320 fin_)] ∧ itM fin_ = n_its (mbl fn_ fz) (mbn fz) (itM fi_) a0 a1 a2 ∧ msn = f_set (mbl fn_ fz) (mbn fz) a0 a1 ms) (va_A [(xo_8_rrriirrriiiiiiirrirrrrri mo m_la m_sz m_it ms mt m_st m_mv m_tp (nI mz) ml (nI mp) mk mv mb mw m_rd m_ac (nI ma) m_as m_wo m_ik m_ke m_tr (nI mx)), (xI m_la cI 8 fn_), (xI m_sz cI 8 fz), (xI m_it cI 320 fi_)] sz)) 0 0 (va_A [(xo_8_rrriirrriiiiiiirrirrrrri mo m_la m_sz m_it ms mt m_st m_mv m_tp (nI mz) ml (nI mp) mk mv mb mw m_rd m_ac (nI ma) m_as m_wo m_ik m_ke m_tr (nI mx)), (xI m_la cI 8 fn_), (xI m_sz cI 8 fz), (xI m_it cI 320 fi_)] sz) := by
  refine Met.ofW (cc := cX8_set) (maxL := 4) (ret := (some .int)) (by decide) rfl ?_
  intro p e s m args below meth c s₁ B hml hv
  obtain ⟨rfl, hsz, hP, hK, hD0⟩ := hv
  have hx := B.exec
  have hb := B.bytes
  have hr := B.returns
  have hts := atoms_spec (ws := wsX8_set) B.pre
  have hown : s.vm.findClass RX8 = some m.cls := findClass_of_methodNamed B.named
  have hlocks := B.notSynchronized
  subst hsz
  have hD := hD0.self (sz := s.heap.size)
  generalize hAe : va_A [(xo_8_rrriirrriiiiiiirrirrrrri mo m_la m_sz m_it ms mt m_st m_mv m_tp (nI mz) ml (nI mp) mk mv mb mw m_rd m_ac (nI ma) m_as m_wo m_ik m_ke m_tr (nI mx)), (xI m_la cI 8 fn_), (xI m_sz cI 8 fz), (xI m_it cI 320 fi_)] s.heap.size = A at hD ⊢
  have hA : ∀ q : Nat, s.heap.size ≤ q → A q := fun q h => by rw [← hAe]; exact Or.inr h
  have hS : va_S A s.heap s.heap [] := va_S.rf
  have hP : va_P (dC, dI) vwCl [(xo_8_rrriirrriiiiiiirrirrrrri mo m_la m_sz m_it ms mt m_st m_mv m_tp (nI mz) ml (nI mp) mk mv mb mw m_rd m_ac (nI ma) m_as m_wo m_ik m_ke m_tr (nI mx)), (xI m_la cI 8 fn_), (xI m_sz cI 8 fz), (xI m_it cI 320 fi_)] s.heap := hP
  have hl := lv_entry ([.ref mo, .int a0, .int a1, .int a2]) (n := 4) (Nat.le_of_ble_eq_true rfl)
  rw [lg_entry_eq]
  generalize (lg_sl ([.ref mo, .int a0, .int a1, .int a2]) ++ List.replicate (4 - (lg_sl ([.ref mo, .int a0, .int a1, .int a2])).length) Slot.unset).toArray = ls at hl ⊢
  have hl : lv_has ls 4 [(0, .ref mo), (1, .int a0), (2, .int a1), (3, .int a2)] := hl
  refine lv_iload_n hx hb dX8_set_0 rfl (lv_at hl 1 rfl) ?_
  have hPc_1 := hP.sub (ws' := []) [] rfl
  refine vp_callSi (W.runS (As := [.int a0]) (rest := []) ⟨hx, hb, hml, hown, hts⟩ (r_X8_isRow l dC dI cI cZ cL cJ a0 ) (va_cwS 1 hts gX8_set_X8_isRow rfl rfl rfl (by decide +kernel) ⟨Nat.le_of_ble_eq_true rfl, Nat.le_of_ble_eq_true rfl⟩) (psP hK hPc_1) rfl rfl hl.1 rfl (lv_room (Nat.le_of_ble_eq_true rfl)) dX8_set_1 ⟨Nat.le_of_ble_eq_true rfl, Nat.le_of_ble_eq_true rfl⟩) (fun r_1 h_1 => ?_)
  rcases h_1 with ⟨h_1, f_1_0_0⟩ | ⟨h_1, f_1_1_0⟩
  · subst h_1
    refine lv_if_ne (tgt := 10) hx hb dX8_set_4 (by decide) (fun c_ => absurd (by decide) c_) (fun _ => ?_)
    refine lv_ldc (own := RX8) (v := (-1000001)) hx hb hown (hts _ mx_X8_set_1) dX8_set_7 ?_
    have hX9 := cut2 (wc := [(xo_8_rrriirrriiiiiiirrirrrrri mo m_la m_sz m_it ms mt m_st m_mv m_tp (nI mz) ml (nI mp) mk mv mb mw m_rd m_ac (nI ma) m_as m_wo m_ik m_ke m_tr (nI mx)), (xI m_la cI 8 fn_), (xI m_sz cI 8 fz), (xI m_it cI 320 fi_)]) hP hD [0, 1, 2, 3] (by decide +kernel) rfl
    exact W.iret (v := (-1000001)) hx hb hr (fun t ht hW => ⟨⟨(-1000001), (), rfl, (lf_X8_set_3 hsz9 hln9 f_1_0_0), ⟨fi_, ms, va_Ht ht hX9.1, hX9.2, (lf_X8_set_1 hsz9 hln9 f_1_0_0), (lf_X8_set_2 hsz9 hln9 f_1_0_0)⟩⟩, hS.F ht⟩) hS.2.2 dX8_set_9
  · subst h_1
    obtain ⟨j_1, hj_1, rfl⟩ := vp_in_of f_1_1_0 (by omega)
    refine lv_if_ne (tgt := 10) hx hb dX8_set_4 (by decide) (fun _ => ?_) (fun c_ => absurd c_ (by decide))
    refine lv_aload_n hx hb dX8_set_10 rfl (lv_at hl 0 rfl) ?_
    refine va_get (D := (dC, dI)) (ci := 8) (v := .ref m_sz) (C := RX8) (T := TX8) (N := 24) hx hb hts i_X8_set_X8 hown hK hP 0 rfl rfl 1 (by decide) (hts _ mx_X8_set_2) (fun _ h9 => h9) rfl dX8_set_11 ?_
    refine lv_iload_n hx hb dX8_set_14 rfl (lv_at hl 1 rfl) ?_
    refine va_iald hx hb hK hP 2 0 rfl rfl (vp_in_nI (by omega) (by omega)) dX8_set_15 ?_
    refine lv_topi (fun v_5 e_5 => ?_)
    rw [nI_clamp (by omega)] at e_5
    rcases hsz9 j_1 (by omega) with hs_5 | ⟨q_5, hq_5, hs_5⟩
    · obtain rfl : v_5 = -1 := e_5.trans hs_5
      refine lv_if_ge (tgt := 25) hx hb dX8_set_16 (by decide) (fun c_ => absurd c_ (by decide)) (fun _ => ?_)
      refine lv_aload_n hx hb dX8_set_19 rfl (lv_at hl 0 rfl) ?_
      refine lv_iconst (v := 1) hx hb dX8_set_20 (by decide) ?_
      have hc_7 := cutW (wc := [(xo_8_rrriirrriiiiiiirrirrrrri mo m_la m_sz m_it ms mt m_st m_mv m_tp (nI mz) ml (nI mp) mk mv mb mw m_rd m_ac (nI ma) m_as m_wo m_ik m_ke m_tr (nI mx))]) hP hD hS hA [0] (by decide +kernel) rfl
      refine va_calli (va_runV (As := [.int 1]) (rest := []) ⟨hx, hb, hml, hown, hts⟩ (r_X8_find l dC dI cI cZ cL cJ s.heap.size mo m_la m_sz m_it m_st m_mv m_tp m_rd m_ac m_as m_wo m_ik m_ke m_tr ms mt ml mk mv mb mw mz mp ma mx 1 ) (cwV 1 hts gX8_set_X8_find rfl rfl rfl (by decide +kernel) ⟨Nat.le_of_ble_eq_true rfl, Nat.le_of_ble_eq_true rfl⟩) (pvW 8 0 hK hP rfl rfl hc_7) rfl rfl hl.1 rfl (lv_room (Nat.le_of_ble_eq_true rfl)) dX8_set_21 ⟨Nat.le_of_ble_eq_true rfl, Nat.le_of_ble_eq_true rfl⟩) hS (fun q _ h => hc_7.2.2 q h) hc_7.2.2 (fun r_7 u_7 t_7 H1 locs ht hvm h_7 hB hz1 hk1 hS => ?_)
      refine xl_1_3 hB (fun msn_7 hP1 hD1 hF_7_0 => ?_)
      clear hB
      rw [ht] at hP1
      obtain ⟨hP, hD⟩ := va_join (wr := [(xI m_la cI 8 fn_), (xI m_sz cI 8 fz), (xI m_it cI 320 fi_)]) (w1 := [(xo_8_rrriirrriiiiiiirrirrrrri mo m_la m_sz m_it msn_7 mt m_st m_mv m_tp (nI mz) ml (nI mp) mk mv mb mw m_rd m_ac (nI ma) m_as m_wo m_ik m_ke m_tr (nI mx))]) hP hD [0] [1, 2, 3] rfl rfl (by decide +kernel) (by decide +kernel) hk1 hc_7.2.2 hP1 hD1
      generalize H1 = H at hP hS ⊢
      have hP : va_P (dC, dI) vwCl [(xI m_la cI 8 fn_), (xI m_sz cI 8 fz), (xI m_it cI 320 fi_), (xo_8_rrriirrriiiiiiirrirrrrri mo m_la m_sz m_it msn_7 mt m_st m_mv m_tp (nI mz) ml (nI mp) mk mv mb mw m_rd m_ac (nI ma) m_as m_wo m_ik m_ke m_tr (nI mx))] H := hP
      have hD := dto hP hD
      have hX9 := cut2 (wc := [(xo_8_rrriirrriiiiiiirrirrrrri mo m_la m_sz m_it msn_7 mt m_st m_mv m_tp (nI mz) ml (nI mp) mk mv mb mw m_rd m_ac (nI ma) m_as m_wo m_ik m_ke m_tr (nI mx)), (xI m_la cI 8 fn_), (xI m_sz cI 8 fz), (xI m_it cI 320 fi_)]) hP hD [3, 0, 1, 2] (by decide +kernel) rfl
      exact W.iret (v := r_7) hx hb hr (fun t ht hW => ⟨⟨r_7, (), rfl, (lf_X8_set_6 hsz9 hln9 hj_1 hs_5 hF_7_0 h_7), ⟨fi_, msn_7, va_Ht ht hX9.1, hX9.2, (lf_X8_set_4 hsz9 hln9 hj_1 hs_5 hF_7_0 h_7), (lf_X8_set_5 hsz9 hln9 hj_1 hs_5 hF_7_0 h_7)⟩⟩, hS.F ht⟩) hS.2.2 dX8_set_24
    · obtain rfl : v_5 = nI q_5 := e_5.trans hs_5
      refine lv_if_ge (tgt := 25) hx hb dX8_set_16 (by decide) (fun _ => ?_) (fun c_ => absurd ((nI_leI (a := 0) (b := q_5) (by omega) (by omega)).mpr (by omega)) c_)
      refine lv_iload_n hx hb dX8_set_25 rfl (lv_at hl 2 rfl) ?_
      refine lv_i2l hx hb dX8_set_26 rfl ?_
      refine lv_lconst (v := 0) hx hb dX8_set_27 (by decide) ?_
      refine lv_aload_n hx hb dX8_set_28 rfl (lv_at hl 0 rfl) ?_
      refine va_get (D := (dC, dI)) (ci := 8) (v := .ref m_sz) (C := RX8) (T := TX8) (N := 24) hx hb hts i_X8_set_X8 hown hK hP 0 rfl rfl 1 (by decide) (hts _ mx_X8_set_2) (fun _ h9 => h9) rfl dX8_set_29 ?_
      refine lv_iload_n hx hb dX8_set_32 rfl (lv_at hl 1 rfl) ?_
      refine va_iald hx hb hK hP 2 0 rfl rfl (vp_in_nI (by omega) (by omega)) dX8_set_33 ?_
      refine lv_topi (fun v_9 e_9 => ?_)
      obtain rfl : v_9 = (nI q_5) := e_9.trans (by rw [nI_clamp (by omega)]; exact hs_5)
      refine lv_iconst (v := 1) hx hb dX8_set_34 (by decide) ?_
      refine lv_isub hx hb dX8_set_35 ?_
      refine lv_topi (fun v_10 e_10 => ?_)
      refine lv_i2l hx hb dX8_set_36 rfl ?_
      have hPc_11 := hP.sub (ws' := []) [] rfl
      refine vp_callSi (W.runS (As := [.long (a1).toInt64, .long 0, .long (v_10).toInt64]) (rest := []) ⟨hx, hb, hml, hown, hts⟩ (r_X8_in l dC dI cI cZ cL cJ ((a1).toInt64) 0 ((v_10).toInt64) ) (va_cwS 3 hts gX8_set_X8_in rfl rfl rfl (by decide +kernel) ⟨Nat.le_of_ble_eq_true rfl, Nat.le_of_ble_eq_true rfl⟩) (psP hK hPc_11) rfl rfl hl.1 rfl (lv_room (Nat.le_of_ble_eq_true rfl)) dX8_set_37 ⟨Nat.le_of_ble_eq_true rfl, Nat.le_of_ble_eq_true rfl⟩) (fun r_11 h_11 => ?_)
      rcases h_11 with ⟨h_11, f_11_0_0⟩ | ⟨h_11, f_11_1_0⟩
      · subst h_11
        have q_11 : (a1 < 0 ∨ v_10 < a1) := (in32 (x := a1) (l := 0) (u := v_10) (by decide) rfl).mp f_11_0_0
        refine lv_if_ne (tgt := 49) hx hb dX8_set_40 (by decide) (fun c_ => absurd (by decide) c_) (fun _ => ?_)
        refine lv_aload_n hx hb dX8_set_43 rfl (lv_at hl 0 rfl) ?_
        refine lv_iconst (v := 2) hx hb dX8_set_44 (by decide) ?_
        have hc_13 := cutW (wc := [(xo_8_rrriirrriiiiiiirrirrrrri mo m_la m_sz m_it ms mt m_st m_mv m_tp (nI mz) ml (nI mp) mk mv mb mw m_rd m_ac (nI ma) m_as m_wo m_ik m_ke m_tr (nI mx))]) hP hD hS hA [0] (by decide +kernel) rfl
        refine va_calli (va_runV (As := [.int 2]) (rest := []) ⟨hx, hb, hml, hown, hts⟩ (r_X8_find l dC dI cI cZ cL cJ s.heap.size mo m_la m_sz m_it m_st m_mv m_tp m_rd m_ac m_as m_wo m_ik m_ke m_tr ms mt ml mk mv mb mw mz mp ma mx 2 ) (cwV 1 hts gX8_set_X8_find rfl rfl rfl (by decide +kernel) ⟨Nat.le_of_ble_eq_true rfl, Nat.le_of_ble_eq_true rfl⟩) (pvW 8 0 hK hP rfl rfl hc_13) rfl rfl hl.1 rfl (lv_room (Nat.le_of_ble_eq_true rfl)) dX8_set_45 ⟨Nat.le_of_ble_eq_true rfl, Nat.le_of_ble_eq_true rfl⟩) hS (fun q _ h => hc_13.2.2 q h) hc_13.2.2 (fun r_13 u_13 t_13 H1 locs ht hvm h_13 hB hz1 hk1 hS => ?_)
        refine xl_1_3 hB (fun msn_13 hP1 hD1 hF_13_0 => ?_)
        clear hB
        rw [ht] at hP1
        obtain ⟨hP, hD⟩ := va_join (wr := [(xI m_la cI 8 fn_), (xI m_sz cI 8 fz), (xI m_it cI 320 fi_)]) (w1 := [(xo_8_rrriirrriiiiiiirrirrrrri mo m_la m_sz m_it msn_13 mt m_st m_mv m_tp (nI mz) ml (nI mp) mk mv mb mw m_rd m_ac (nI ma) m_as m_wo m_ik m_ke m_tr (nI mx))]) hP hD [0] [1, 2, 3] rfl rfl (by decide +kernel) (by decide +kernel) hk1 hc_13.2.2 hP1 hD1
        generalize H1 = H at hP hS ⊢
        have hP : va_P (dC, dI) vwCl [(xI m_la cI 8 fn_), (xI m_sz cI 8 fz), (xI m_it cI 320 fi_), (xo_8_rrriirrriiiiiiirrirrrrri mo m_la m_sz m_it msn_13 mt m_st m_mv m_tp (nI mz) ml (nI mp) mk mv mb mw m_rd m_ac (nI ma) m_as m_wo m_ik m_ke m_tr (nI mx))] H := hP
        have hD := dto hP hD
        have hX9 := cut2 (wc := [(xo_8_rrriirrriiiiiiirrirrrrri mo m_la m_sz m_it msn_13 mt m_st m_mv m_tp (nI mz) ml (nI mp) mk mv mb mw m_rd m_ac (nI ma) m_as m_wo m_ik m_ke m_tr (nI mx)), (xI m_la cI 8 fn_), (xI m_sz cI 8 fz), (xI m_it cI 320 fi_)]) hP hD [3, 0, 1, 2] (by decide +kernel) rfl
        exact W.iret (v := r_13) hx hb hr (fun t ht hW => ⟨⟨r_13, (), rfl, (lf_X8_set_9 hsz9 hln9 hj_1 hs_5 hq_5 e_10 f_11_0_0 q_11 hF_13_0 h_13), ⟨fi_, msn_13, va_Ht ht hX9.1, hX9.2, (lf_X8_set_7 hsz9 hln9 hj_1 hs_5 hq_5 e_10 f_11_0_0 q_11 hF_13_0 h_13), (lf_X8_set_8 hsz9 hln9 hj_1 hs_5 hq_5 e_10 f_11_0_0 q_11 hF_13_0 h_13)⟩⟩, hS.F ht⟩) hS.2.2 dX8_set_48
      · subst h_11
        have q_11 : ¬ (a1 < 0 ∨ v_10 < a1) := fun q_ => f_11_1_0 ((in32 (x := a1) (l := 0) (u := v_10) (by decide) rfl).mpr q_)
        obtain ⟨j_11, hj_11, rfl⟩ := vp_in_of (snd_in (k := q_5) (by omega) e_10 f_11_1_0) (by omega)
        refine lv_if_ne (tgt := 49) hx hb dX8_set_40 (by decide) (fun _ => ?_) (fun c_ => absurd c_ (by decide))
        refine lv_aload_n hx hb dX8_set_49 rfl (lv_at hl 0 rfl) ?_
        refine va_get (D := (dC, dI)) (ci := 8) (v := .ref m_it) (C := RX8) (T := TX8) (N := 24) hx hb hts i_X8_set_X8 hown hK hP 0 rfl rfl 2 (by decide) (hts _ mx_X8_set_3) (fun _ h9 => h9) rfl dX8_set_50 ?_
        refine lv_bipush (v := 40) hx hb dX8_set_53 (by decide) ?_
        refine lv_iload_n hx hb dX8_set_55 rfl (lv_at hl 1 rfl) ?_
        refine lv_imul hx hb dX8_set_56 ?_
        refine lv_topi (fun v_15 e_15 => ?_)
        obtain rfl : v_15 = (nI (40 * j_1)) := (e_15).trans (pk_mul 40 j_1)
        refine lv_iload_n hx hb dX8_set_57 rfl (lv_at hl 2 rfl) ?_
        refine lv_iadd hx hb dX8_set_58 ?_
        refine lv_topi (fun v_16 e_16 => ?_)
        obtain rfl : v_16 = (nI ((40 * j_1) + j_11)) := (e_16).trans (nI_add (40 * j_1) j_11)
        refine lv_aload_n hx hb dX8_set_59 rfl (lv_at hl 0 rfl) ?_
        refine va_get (D := (dC, dI)) (ci := 8) (v := .ref m_la) (C := RX8) (T := TX8) (N := 24) hx hb hts i_X8_set_X8 hown hK hP 0 rfl rfl 0 (by decide) (hts _ mx_X8_set_4) (fun _ h9 => h9) rfl dX8_set_60 ?_
        refine lv_iload_n hx hb dX8_set_63 rfl (lv_at hl 1 rfl) ?_
        refine va_iald hx hb hK hP 1 0 rfl rfl (vp_in_nI (by omega) (by omega)) dX8_set_64 ?_
        refine lv_topi (fun v_17 e_17 => ?_)
        have e_17 : v_17 = fn_ j_1 := e_17.trans (congrArg fn_ (nI_clamp (by omega)))
        refine lv_iload_n hx hb dX8_set_65 rfl (lv_at hl 3 rfl) ?_
        have hPc_18 := hP.sub (ws' := []) [] rfl
        refine vp_callSi (W.runS (As := [.int v_17, .int a2]) (rest := [.int (nI ((40 * j_1) + j_11)), .ref m_it]) ⟨hx, hb, hml, hown, hts⟩ (r_X8_asLane l dC dI cI cZ cL cJ v_17 a2 ) (va_cwS 2 hts gX8_set_X8_asLane rfl rfl rfl (by decide +kernel) ⟨Nat.le_of_ble_eq_true rfl, Nat.le_of_ble_eq_true rfl⟩) (psP hK hPc_18) rfl rfl hl.1 rfl (lv_room (Nat.le_of_ble_eq_true rfl)) dX8_set_66 ⟨Nat.le_of_ble_eq_true rfl, Nat.le_of_ble_eq_true rfl⟩) (fun r_18 h_18 => ?_)
        refine va_iast hx hb hK hP hD hS 3 0 rfl rfl (vp_in_nI (by omega) (by omega)) dX8_set_69 (fun H locs hP hD hS => ?_)
        generalize hg_19 : upd fi_ ((nI ((40 * j_1) + j_11)) : Int32).toNatClampNeg r_18 = g_19 at hP hD
        have hu_19 : g_19 = upd fi_ ((40 * j_1) + j_11) r_18 := (by rw [← hg_19, nI_clamp (by omega)])
        have hP : va_P (dC, dI) vwCl [(xo_8_rrriirrriiiiiiirrirrrrri mo m_la m_sz m_it ms mt m_st m_mv m_tp (nI mz) ml (nI mp) mk mv mb mw m_rd m_ac (nI ma) m_as m_wo m_ik m_ke m_tr (nI mx)), (xI m_la cI 8 fn_), (xI m_sz cI 8 fz), (xI m_it cI 320 g_19)] H := hP
        have hD := dto hP hD
        refine lv_aload_n hx hb dX8_set_70 rfl (lv_at hl 0 rfl) ?_
        refine lv_aload_n hx hb dX8_set_71 rfl (lv_at hl 0 rfl) ?_
        refine va_get (D := (dC, dI)) (ci := 8) (v := .ref m_it) (C := RX8) (T := TX8) (N := 24) hx hb hts i_X8_set_X8 hown hK hP 0 rfl rfl 2 (by decide) (hts _ mx_X8_set_3) (fun _ h9 => h9) rfl dX8_set_72 ?_
        refine lv_bipush (v := 40) hx hb dX8_set_75 (by decide) ?_
        refine lv_iload_n hx hb dX8_set_77 rfl (lv_at hl 1 rfl) ?_
        refine lv_imul hx hb dX8_set_78 ?_
        refine lv_topi (fun v_20 e_20 => ?_)
        obtain rfl : v_20 = (nI (40 * j_1)) := (e_20).trans (pk_mul 40 j_1)
        refine lv_iload_n hx hb dX8_set_79 rfl (lv_at hl 2 rfl) ?_
        refine lv_iadd hx hb dX8_set_80 ?_
        refine lv_topi (fun v_21 e_21 => ?_)
        obtain rfl : v_21 = (nI ((40 * j_1) + j_11)) := (e_21).trans (nI_add (40 * j_1) j_11)
        refine va_iald hx hb hK hP 3 0 rfl rfl (vp_in_nI (by omega) (by omega)) dX8_set_81 ?_
        refine lv_topi (fun v_22 e_22 => ?_)
        have e_22 : v_22 = g_19 ((40 * j_1) + j_11) := e_22.trans (congrArg g_19 (nI_clamp (by omega)))
        have hc_23 := cutW (wc := [(xo_8_rrriirrriiiiiiirrirrrrri mo m_la m_sz m_it ms mt m_st m_mv m_tp (nI mz) ml (nI mp) mk mv mb mw m_rd m_ac (nI ma) m_as m_wo m_ik m_ke m_tr (nI mx))]) hP hD hS hA [0] (by decide +kernel) rfl
        refine va_calli (va_runV (As := [.int v_22]) (rest := []) ⟨hx, hb, hml, hown, hts⟩ (r_X8_well l dC dI cI cZ cL cJ H.size mo m_la m_sz m_it m_st m_mv m_tp m_rd m_ac m_as m_wo m_ik m_ke m_tr ms mt ml mk mv mb mw mz mp ma mx v_22 ) (cwV 1 hts gX8_set_X8_well rfl rfl rfl (by decide +kernel) ⟨Nat.le_of_ble_eq_true rfl, Nat.le_of_ble_eq_true rfl⟩) (pvW 8 0 hK hP rfl rfl hc_23) rfl rfl hl.1 rfl (lv_room (Nat.le_of_ble_eq_true rfl)) dX8_set_82 ⟨Nat.le_of_ble_eq_true rfl, Nat.le_of_ble_eq_true rfl⟩) hS (fun q _ h => hc_23.2.2 q h) hc_23.2.2 (fun r_23 u_23 t_23 H1 locs ht hvm h_23 hB hz1 hk1 hS => ?_)
        refine xl_1_3 hB (fun msn_23 hP1 hD1 hF_23_0 => ?_)
        clear hB
        rw [ht] at hP1
        obtain ⟨hP, hD⟩ := va_join (wr := [(xI m_la cI 8 fn_), (xI m_sz cI 8 fz), (xI m_it cI 320 g_19)]) (w1 := [(xo_8_rrriirrriiiiiiirrirrrrri mo m_la m_sz m_it msn_23 mt m_st m_mv m_tp (nI mz) ml (nI mp) mk mv mb mw m_rd m_ac (nI ma) m_as m_wo m_ik m_ke m_tr (nI mx))]) hP hD [0] [1, 2, 3] rfl rfl (by decide +kernel) (by decide +kernel) hk1 hc_23.2.2 hP1 hD1
        generalize H1 = H at hP hS ⊢
        have hP : va_P (dC, dI) vwCl [(xI m_la cI 8 fn_), (xI m_sz cI 8 fz), (xI m_it cI 320 g_19), (xo_8_rrriirrriiiiiiirrirrrrri mo m_la m_sz m_it msn_23 mt m_st m_mv m_tp (nI mz) ml (nI mp) mk mv mb mw m_rd m_ac (nI ma) m_as m_wo m_ik m_ke m_tr (nI mx))] H := hP
        have hD := dto hP hD
        have hX9 := cut2 (wc := [(xo_8_rrriirrriiiiiiirrirrrrri mo m_la m_sz m_it msn_23 mt m_st m_mv m_tp (nI mz) ml (nI mp) mk mv mb mw m_rd m_ac (nI ma) m_as m_wo m_ik m_ke m_tr (nI mx)), (xI m_la cI 8 fn_), (xI m_sz cI 8 fz), (xI m_it cI 320 g_19)]) hP hD [3, 0, 1, 2] (by decide +kernel) rfl
        exact W.iret (v := r_23) hx hb hr (fun t ht hW => ⟨⟨r_23, (), rfl, (lf_X8_set_12 hsz9 hln9 hj_1 hs_5 hq_5 e_10 f_11_1_0 q_11 hj_11 e_17 h_18 hu_19 e_22 hF_23_0 h_23), ⟨g_19, msn_23, va_Ht ht hX9.1, hX9.2, (lf_X8_set_10 hsz9 hln9 hj_1 hs_5 hq_5 e_10 f_11_1_0 q_11 hj_11 e_17 h_18 hu_19 e_22 hF_23_0 h_23), (lf_X8_set_11 hsz9 hln9 hj_1 hs_5 hq_5 e_10 f_11_1_0 q_11 hj_11 e_17 h_18 hu_19 e_22 hF_23_0 h_23)⟩⟩, hS.F ht⟩) hS.2.2 dX8_set_85
theorem lf_X8_copy_1 {fn_ : Nat → Int32} {fz : Nat → Int32} {fi_ : Nat → Int32} {a0 : Int32} {a1 : Int32} {a2 : Int32} {a3 : Int32} {a4 : Int32} (hsz9 : ∀ j : Nat, j < 8 → fz j = -1 ∨ ∃ q : Nat, q ≤ 40 ∧ fz j = nI q) (hln9 : ∀ j : Nat, j < 8 → ¬ fz j = -1 → ¬ fn_ j = -1) (f_1_0_0 : (a0 < 0 ∨ 8 ≤ a0)) : itM fi_ = n_itc (mbl fn_ fz) (mbn fz) (itM fi_) a0 a1 a2 a3 a4 := by
  first
  | with_reducible exact (fc_0 (Or.inl (by assumption))).symm
  | with_reducible exact (fc_0 (Or.inr (by assumption))).symm
  | with_reducible exact (itc_0 (Or.inl (by assumption))).symm
  | with_reducible exact (itc_0 (Or.inr (by assumption))).symm
  | with_reducible exact yc_1 (by assumption) (by assumption) (Or.inl (by assumption)) (by assumption)
  | with_reducible exact yc_1 (by assumption) (by assumption) (Or.inr (by assumption)) (by assumption)
  | with_reducible exact yj_1 (by assumption) (by assumption) (Or.inl (by assumption))
  | with_reducible exact yj_1 (by assumption) (by assumption) (Or.inr (by assumption))
  | with_reducible exact yc_2 hln9 (by assumption) (by assumption) (by assumption) (by assumption) (by assumption) (by assumption) (by assumption) (by assumption) (by assumption) (by assumption)
  | with_reducible exact yj_2 (by assumption) (by assumption) (by assumption) (by assumption) (by assumption) (by assumption) (by assumption) (by assumption) (by assumption)
  | with_reducible exact yc_3 hln9 (by assumption) (by assumption) (by assumption) (by assumption) (by assumption) (by assumption) (by assumption) (by assumption) (by assumption) (by first | exact Or.inl (np_1 (by assumption)) | exact Or.inl (np_2 (by assumption) (by assumption) (by assumption) (by assumption)) | exact Or.inr (np_2 (by assumption) (by assumption) (by assumption) (by assumption))) (by assumption)
  | with_reducible exact yj_3 (by assumption) (by assumption) (by assumption) (by assumption) (by assumption) (by assumption) (by first | exact Or.inl (np_1 (by assumption)) | exact Or.inl (np_2 (by assumption) (by assumption) (by assumption) (by assumption)) | exact Or.inr (np_2 (by assumption) (by assumption) (by assumption) (by assumption)))
  | with_reducible exact yc_4 hln9 (by assumption) (by assumption) (by assumption) (by assumption) (by assumption) (by assumption) (by assumption) (by assumption) (by assumption) ((plc_i64 (by assumption) (by assumption) (by assumption)).mp (by assumption)) ((plc_i64 (by assumption) (by assumption) (by assumption)).mp (by assumption)) (by assumption)
  | with_reducible exact (ar_copy_0 (Or.inl (by assumption))).symm
  | with_reducible exact (ar_copy_0 (Or.inr (by assumption))).symm
  | (subst_vars; with_reducible exact (am_copy_1 (by assumption) (by assumption) (by grind)).symm)
  | (subst_vars; with_reducible exact (am_copy_2 hln9 (by assumption) (by assumption) (by assumption) (by assumption) (by assumption) (by assumption) (by assumption)).symm)
  | (refine Eq.trans (by assumption) (am_copy_3 hln9 (by assumption) (by assumption) (by assumption) (by assumption) (by assumption) (by assumption) (by grind) ?_).symm; first | exact Or.inl (fun z => z.2.1 (by assumption)) | exact Or.inl (fun z => (plc_i64 (by assumption) (by assumption) (by assumption)).mpr z (by assumption)) | exact Or.inr (fun z => (plc_i64 (by assumption) (by assumption) (by assumption)).mpr z (by assumption)))
  | (refine Eq.trans (by assumption) (am_copy_4 hln9 (by assumption) (by assumption) (by assumption) (by assumption) (by assumption) (by assumption) (by grind) ((plc_i64 (by assumption) (by assumption) (by assumption)).mp (by assumption)) ((plc_i64 (by assumption) (by assumption) (by assumption)).mp (by assumption))).symm)
theorem lf_X8_copy_2 {ms : Int32} {fn_ : Nat → Int32} {fz : Nat → Int32} {a0 : Int32} {a1 : Int32} {a2 : Int32} {a3 : Int32} {a4 : Int32} (hsz9 : ∀ j : Nat, j < 8 → fz j = -1 ∨ ∃ q : Nat, q ≤ 40 ∧ fz j = nI q) (hln9 : ∀ j : Nat, j < 8 → ¬ fz j = -1 → ¬ fn_ j = -1) (f_1_0_0 : (a0 < 0 ∨ 8 ≤ a0)) : ms = f_copy (mbl fn_ fz) (mbn fz) a0 a1 a2 a3 a4 ms := by
  first
  | with_reducible exact (fc_0 (Or.inl (by assumption))).symm
  | with_reducible exact (fc_0 (Or.inr (by assumption))).symm
  | with_reducible exact (itc_0 (Or.inl (by assumption))).symm
  | with_reducible exact (itc_0 (Or.inr (by assumption))).symm
  | with_reducible exact yc_1 (by assumption) (by assumption) (Or.inl (by assumption)) (by assumption)
  | with_reducible exact yc_1 (by assumption) (by assumption) (Or.inr (by assumption)) (by assumption)
  | with_reducible exact yj_1 (by assumption) (by assumption) (Or.inl (by assumption))
  | with_reducible exact yj_1 (by assumption) (by assumption) (Or.inr (by assumption))
  | with_reducible exact yc_2 hln9 (by assumption) (by assumption) (by assumption) (by assumption) (by assumption) (by assumption) (by assumption) (by assumption) (by assumption) (by assumption)
  | with_reducible exact yj_2 (by assumption) (by assumption) (by assumption) (by assumption) (by assumption) (by assumption) (by assumption) (by assumption) (by assumption)
  | with_reducible exact yc_3 hln9 (by assumption) (by assumption) (by assumption) (by assumption) (by assumption) (by assumption) (by assumption) (by assumption) (by assumption) (by first | exact Or.inl (np_1 (by assumption)) | exact Or.inl (np_2 (by assumption) (by assumption) (by assumption) (by assumption)) | exact Or.inr (np_2 (by assumption) (by assumption) (by assumption) (by assumption))) (by assumption)
  | with_reducible exact yj_3 (by assumption) (by assumption) (by assumption) (by assumption) (by assumption) (by assumption) (by first | exact Or.inl (np_1 (by assumption)) | exact Or.inl (np_2 (by assumption) (by assumption) (by assumption) (by assumption)) | exact Or.inr (np_2 (by assumption) (by assumption) (by assumption) (by assumption)))
  | with_reducible exact yc_4 hln9 (by assumption) (by assumption) (by assumption) (by assumption) (by assumption) (by assumption) (by assumption) (by assumption) (by assumption) ((plc_i64 (by assumption) (by assumption) (by assumption)).mp (by assumption)) ((plc_i64 (by assumption) (by assumption) (by assumption)).mp (by assumption)) (by assumption)
  | with_reducible exact (ar_copy_0 (Or.inl (by assumption))).symm
  | with_reducible exact (ar_copy_0 (Or.inr (by assumption))).symm
  | (subst_vars; with_reducible exact (am_copy_1 (by assumption) (by assumption) (by grind)).symm)
  | (subst_vars; with_reducible exact (am_copy_2 hln9 (by assumption) (by assumption) (by assumption) (by assumption) (by assumption) (by assumption) (by assumption)).symm)
  | (refine Eq.trans (by assumption) (am_copy_3 hln9 (by assumption) (by assumption) (by assumption) (by assumption) (by assumption) (by assumption) (by grind) ?_).symm; first | exact Or.inl (fun z => z.2.1 (by assumption)) | exact Or.inl (fun z => (plc_i64 (by assumption) (by assumption) (by assumption)).mpr z (by assumption)) | exact Or.inr (fun z => (plc_i64 (by assumption) (by assumption) (by assumption)).mpr z (by assumption)))
  | (refine Eq.trans (by assumption) (am_copy_4 hln9 (by assumption) (by assumption) (by assumption) (by assumption) (by assumption) (by assumption) (by grind) ((plc_i64 (by assumption) (by assumption) (by assumption)).mp (by assumption)) ((plc_i64 (by assumption) (by assumption) (by assumption)).mp (by assumption))).symm)
theorem lf_X8_copy_3 {fn_ : Nat → Int32} {fz : Nat → Int32} {a0 : Int32} {a1 : Int32} {a2 : Int32} {a3 : Int32} {a4 : Int32} (hsz9 : ∀ j : Nat, j < 8 → fz j = -1 ∨ ∃ q : Nat, q ≤ 40 ∧ fz j = nI q) (hln9 : ∀ j : Nat, j < 8 → ¬ fz j = -1 → ¬ fn_ j = -1) (f_1_0_0 : (a0 < 0 ∨ 8 ≤ a0)) : (-1000001) = (ar_copy (mbl fn_ fz) (mbn fz) a0 a1 a2 a3 a4) := by
  first
  | with_reducible exact (fc_0 (Or.inl (by assumption))).symm
  | with_reducible exact (fc_0 (Or.inr (by assumption))).symm
  | with_reducible exact (itc_0 (Or.inl (by assumption))).symm
  | with_reducible exact (itc_0 (Or.inr (by assumption))).symm
  | with_reducible exact yc_1 (by assumption) (by assumption) (Or.inl (by assumption)) (by assumption)
  | with_reducible exact yc_1 (by assumption) (by assumption) (Or.inr (by assumption)) (by assumption)
  | with_reducible exact yj_1 (by assumption) (by assumption) (Or.inl (by assumption))
  | with_reducible exact yj_1 (by assumption) (by assumption) (Or.inr (by assumption))
  | with_reducible exact yc_2 hln9 (by assumption) (by assumption) (by assumption) (by assumption) (by assumption) (by assumption) (by assumption) (by assumption) (by assumption) (by assumption)
  | with_reducible exact yj_2 (by assumption) (by assumption) (by assumption) (by assumption) (by assumption) (by assumption) (by assumption) (by assumption) (by assumption)
  | with_reducible exact yc_3 hln9 (by assumption) (by assumption) (by assumption) (by assumption) (by assumption) (by assumption) (by assumption) (by assumption) (by assumption) (by first | exact Or.inl (np_1 (by assumption)) | exact Or.inl (np_2 (by assumption) (by assumption) (by assumption) (by assumption)) | exact Or.inr (np_2 (by assumption) (by assumption) (by assumption) (by assumption))) (by assumption)
  | with_reducible exact yj_3 (by assumption) (by assumption) (by assumption) (by assumption) (by assumption) (by assumption) (by first | exact Or.inl (np_1 (by assumption)) | exact Or.inl (np_2 (by assumption) (by assumption) (by assumption) (by assumption)) | exact Or.inr (np_2 (by assumption) (by assumption) (by assumption) (by assumption)))
  | with_reducible exact yc_4 hln9 (by assumption) (by assumption) (by assumption) (by assumption) (by assumption) (by assumption) (by assumption) (by assumption) (by assumption) ((plc_i64 (by assumption) (by assumption) (by assumption)).mp (by assumption)) ((plc_i64 (by assumption) (by assumption) (by assumption)).mp (by assumption)) (by assumption)
  | with_reducible exact (ar_copy_0 (Or.inl (by assumption))).symm
  | with_reducible exact (ar_copy_0 (Or.inr (by assumption))).symm
  | (subst_vars; with_reducible exact (am_copy_1 (by assumption) (by assumption) (by grind)).symm)
  | (subst_vars; with_reducible exact (am_copy_2 hln9 (by assumption) (by assumption) (by assumption) (by assumption) (by assumption) (by assumption) (by assumption)).symm)
  | (refine Eq.trans (by assumption) (am_copy_3 hln9 (by assumption) (by assumption) (by assumption) (by assumption) (by assumption) (by assumption) (by grind) ?_).symm; first | exact Or.inl (fun z => z.2.1 (by assumption)) | exact Or.inl (fun z => (plc_i64 (by assumption) (by assumption) (by assumption)).mpr z (by assumption)) | exact Or.inr (fun z => (plc_i64 (by assumption) (by assumption) (by assumption)).mpr z (by assumption)))
  | (refine Eq.trans (by assumption) (am_copy_4 hln9 (by assumption) (by assumption) (by assumption) (by assumption) (by assumption) (by assumption) (by grind) ((plc_i64 (by assumption) (by assumption) (by assumption)).mp (by assumption)) ((plc_i64 (by assumption) (by assumption) (by assumption)).mp (by assumption))).symm)
theorem lf_X8_copy_4 {fn_ : Nat → Int32} {fz : Nat → Int32} {fi_ : Nat → Int32} {a1 : Int32} {a2 : Int32} {a3 : Int32} {a4 : Int32} {j_1 : Nat} (hsz9 : ∀ j : Nat, j < 8 → fz j = -1 ∨ ∃ q : Nat, q ≤ 40 ∧ fz j = nI q) (hln9 : ∀ j : Nat, j < 8 → ¬ fz j = -1 → ¬ fn_ j = -1) (hj_1 : j_1 < 8) (f_5_0_0 : (a2 < 0 ∨ 8 ≤ a2)) : itM fi_ = n_itc (mbl fn_ fz) (mbn fz) (itM fi_) (nI j_1) a1 a2 a3 a4 := by
  first
  | with_reducible exact (fc_0 (Or.inl (by assumption))).symm
  | with_reducible exact (fc_0 (Or.inr (by assumption))).symm
  | with_reducible exact (itc_0 (Or.inl (by assumption))).symm
  | with_reducible exact (itc_0 (Or.inr (by assumption))).symm
  | with_reducible exact yc_1 (by assumption) (by assumption) (Or.inl (by assumption)) (by assumption)
  | with_reducible exact yc_1 (by assumption) (by assumption) (Or.inr (by assumption)) (by assumption)
  | with_reducible exact yj_1 (by assumption) (by assumption) (Or.inl (by assumption))
  | with_reducible exact yj_1 (by assumption) (by assumption) (Or.inr (by assumption))
  | with_reducible exact yc_2 hln9 (by assumption) (by assumption) (by assumption) (by assumption) (by assumption) (by assumption) (by assumption) (by assumption) (by assumption) (by assumption)
  | with_reducible exact yj_2 (by assumption) (by assumption) (by assumption) (by assumption) (by assumption) (by assumption) (by assumption) (by assumption) (by assumption)
  | with_reducible exact yc_3 hln9 (by assumption) (by assumption) (by assumption) (by assumption) (by assumption) (by assumption) (by assumption) (by assumption) (by assumption) (by first | exact Or.inl (np_1 (by assumption)) | exact Or.inl (np_2 (by assumption) (by assumption) (by assumption) (by assumption)) | exact Or.inr (np_2 (by assumption) (by assumption) (by assumption) (by assumption))) (by assumption)
  | with_reducible exact yj_3 (by assumption) (by assumption) (by assumption) (by assumption) (by assumption) (by assumption) (by first | exact Or.inl (np_1 (by assumption)) | exact Or.inl (np_2 (by assumption) (by assumption) (by assumption) (by assumption)) | exact Or.inr (np_2 (by assumption) (by assumption) (by assumption) (by assumption)))
  | with_reducible exact yc_4 hln9 (by assumption) (by assumption) (by assumption) (by assumption) (by assumption) (by assumption) (by assumption) (by assumption) (by assumption) ((plc_i64 (by assumption) (by assumption) (by assumption)).mp (by assumption)) ((plc_i64 (by assumption) (by assumption) (by assumption)).mp (by assumption)) (by assumption)
  | with_reducible exact (ar_copy_0 (Or.inl (by assumption))).symm
  | with_reducible exact (ar_copy_0 (Or.inr (by assumption))).symm
  | (subst_vars; with_reducible exact (am_copy_1 (by assumption) (by assumption) (by grind)).symm)
  | (subst_vars; with_reducible exact (am_copy_2 hln9 (by assumption) (by assumption) (by assumption) (by assumption) (by assumption) (by assumption) (by assumption)).symm)
  | (refine Eq.trans (by assumption) (am_copy_3 hln9 (by assumption) (by assumption) (by assumption) (by assumption) (by assumption) (by assumption) (by grind) ?_).symm; first | exact Or.inl (fun z => z.2.1 (by assumption)) | exact Or.inl (fun z => (plc_i64 (by assumption) (by assumption) (by assumption)).mpr z (by assumption)) | exact Or.inr (fun z => (plc_i64 (by assumption) (by assumption) (by assumption)).mpr z (by assumption)))
  | (refine Eq.trans (by assumption) (am_copy_4 hln9 (by assumption) (by assumption) (by assumption) (by assumption) (by assumption) (by assumption) (by grind) ((plc_i64 (by assumption) (by assumption) (by assumption)).mp (by assumption)) ((plc_i64 (by assumption) (by assumption) (by assumption)).mp (by assumption))).symm)
theorem lf_X8_copy_5 {ms : Int32} {fn_ : Nat → Int32} {fz : Nat → Int32} {a1 : Int32} {a2 : Int32} {a3 : Int32} {a4 : Int32} {j_1 : Nat} (hsz9 : ∀ j : Nat, j < 8 → fz j = -1 ∨ ∃ q : Nat, q ≤ 40 ∧ fz j = nI q) (hln9 : ∀ j : Nat, j < 8 → ¬ fz j = -1 → ¬ fn_ j = -1) (hj_1 : j_1 < 8) (f_5_0_0 : (a2 < 0 ∨ 8 ≤ a2)) : ms = f_copy (mbl fn_ fz) (mbn fz) (nI j_1) a1 a2 a3 a4 ms := by
  first
  | with_reducible exact (fc_0 (Or.inl (by assumption))).symm
  | with_reducible exact (fc_0 (Or.inr (by assumption))).symm
  | with_reducible exact (itc_0 (Or.inl (by assumption))).symm
  | with_reducible exact (itc_0 (Or.inr (by assumption))).symm
  | with_reducible exact yc_1 (by assumption) (by assumption) (Or.inl (by assumption)) (by assumption)
  | with_reducible exact yc_1 (by assumption) (by assumption) (Or.inr (by assumption)) (by assumption)
  | with_reducible exact yj_1 (by assumption) (by assumption) (Or.inl (by assumption))
  | with_reducible exact yj_1 (by assumption) (by assumption) (Or.inr (by assumption))
  | with_reducible exact yc_2 hln9 (by assumption) (by assumption) (by assumption) (by assumption) (by assumption) (by assumption) (by assumption) (by assumption) (by assumption) (by assumption)
  | with_reducible exact yj_2 (by assumption) (by assumption) (by assumption) (by assumption) (by assumption) (by assumption) (by assumption) (by assumption) (by assumption)
  | with_reducible exact yc_3 hln9 (by assumption) (by assumption) (by assumption) (by assumption) (by assumption) (by assumption) (by assumption) (by assumption) (by assumption) (by first | exact Or.inl (np_1 (by assumption)) | exact Or.inl (np_2 (by assumption) (by assumption) (by assumption) (by assumption)) | exact Or.inr (np_2 (by assumption) (by assumption) (by assumption) (by assumption))) (by assumption)
  | with_reducible exact yj_3 (by assumption) (by assumption) (by assumption) (by assumption) (by assumption) (by assumption) (by first | exact Or.inl (np_1 (by assumption)) | exact Or.inl (np_2 (by assumption) (by assumption) (by assumption) (by assumption)) | exact Or.inr (np_2 (by assumption) (by assumption) (by assumption) (by assumption)))
  | with_reducible exact yc_4 hln9 (by assumption) (by assumption) (by assumption) (by assumption) (by assumption) (by assumption) (by assumption) (by assumption) (by assumption) ((plc_i64 (by assumption) (by assumption) (by assumption)).mp (by assumption)) ((plc_i64 (by assumption) (by assumption) (by assumption)).mp (by assumption)) (by assumption)
  | with_reducible exact (ar_copy_0 (Or.inl (by assumption))).symm
  | with_reducible exact (ar_copy_0 (Or.inr (by assumption))).symm
  | (subst_vars; with_reducible exact (am_copy_1 (by assumption) (by assumption) (by grind)).symm)
  | (subst_vars; with_reducible exact (am_copy_2 hln9 (by assumption) (by assumption) (by assumption) (by assumption) (by assumption) (by assumption) (by assumption)).symm)
  | (refine Eq.trans (by assumption) (am_copy_3 hln9 (by assumption) (by assumption) (by assumption) (by assumption) (by assumption) (by assumption) (by grind) ?_).symm; first | exact Or.inl (fun z => z.2.1 (by assumption)) | exact Or.inl (fun z => (plc_i64 (by assumption) (by assumption) (by assumption)).mpr z (by assumption)) | exact Or.inr (fun z => (plc_i64 (by assumption) (by assumption) (by assumption)).mpr z (by assumption)))
  | (refine Eq.trans (by assumption) (am_copy_4 hln9 (by assumption) (by assumption) (by assumption) (by assumption) (by assumption) (by assumption) (by grind) ((plc_i64 (by assumption) (by assumption) (by assumption)).mp (by assumption)) ((plc_i64 (by assumption) (by assumption) (by assumption)).mp (by assumption))).symm)
theorem lf_X8_copy_6 {fn_ : Nat → Int32} {fz : Nat → Int32} {a1 : Int32} {a2 : Int32} {a3 : Int32} {a4 : Int32} {j_1 : Nat} (hsz9 : ∀ j : Nat, j < 8 → fz j = -1 ∨ ∃ q : Nat, q ≤ 40 ∧ fz j = nI q) (hln9 : ∀ j : Nat, j < 8 → ¬ fz j = -1 → ¬ fn_ j = -1) (hj_1 : j_1 < 8) (f_5_0_0 : (a2 < 0 ∨ 8 ≤ a2)) : (-1000001) = (ar_copy (mbl fn_ fz) (mbn fz) (nI j_1) a1 a2 a3 a4) := by
  first
  | with_reducible exact (fc_0 (Or.inl (by assumption))).symm
  | with_reducible exact (fc_0 (Or.inr (by assumption))).symm
  | with_reducible exact (itc_0 (Or.inl (by assumption))).symm
  | with_reducible exact (itc_0 (Or.inr (by assumption))).symm
  | with_reducible exact yc_1 (by assumption) (by assumption) (Or.inl (by assumption)) (by assumption)
  | with_reducible exact yc_1 (by assumption) (by assumption) (Or.inr (by assumption)) (by assumption)
  | with_reducible exact yj_1 (by assumption) (by assumption) (Or.inl (by assumption))
  | with_reducible exact yj_1 (by assumption) (by assumption) (Or.inr (by assumption))
  | with_reducible exact yc_2 hln9 (by assumption) (by assumption) (by assumption) (by assumption) (by assumption) (by assumption) (by assumption) (by assumption) (by assumption) (by assumption)
  | with_reducible exact yj_2 (by assumption) (by assumption) (by assumption) (by assumption) (by assumption) (by assumption) (by assumption) (by assumption) (by assumption)
  | with_reducible exact yc_3 hln9 (by assumption) (by assumption) (by assumption) (by assumption) (by assumption) (by assumption) (by assumption) (by assumption) (by assumption) (by first | exact Or.inl (np_1 (by assumption)) | exact Or.inl (np_2 (by assumption) (by assumption) (by assumption) (by assumption)) | exact Or.inr (np_2 (by assumption) (by assumption) (by assumption) (by assumption))) (by assumption)
  | with_reducible exact yj_3 (by assumption) (by assumption) (by assumption) (by assumption) (by assumption) (by assumption) (by first | exact Or.inl (np_1 (by assumption)) | exact Or.inl (np_2 (by assumption) (by assumption) (by assumption) (by assumption)) | exact Or.inr (np_2 (by assumption) (by assumption) (by assumption) (by assumption)))
  | with_reducible exact yc_4 hln9 (by assumption) (by assumption) (by assumption) (by assumption) (by assumption) (by assumption) (by assumption) (by assumption) (by assumption) ((plc_i64 (by assumption) (by assumption) (by assumption)).mp (by assumption)) ((plc_i64 (by assumption) (by assumption) (by assumption)).mp (by assumption)) (by assumption)
  | with_reducible exact (ar_copy_0 (Or.inl (by assumption))).symm
  | with_reducible exact (ar_copy_0 (Or.inr (by assumption))).symm
  | (subst_vars; with_reducible exact (am_copy_1 (by assumption) (by assumption) (by grind)).symm)
  | (subst_vars; with_reducible exact (am_copy_2 hln9 (by assumption) (by assumption) (by assumption) (by assumption) (by assumption) (by assumption) (by assumption)).symm)
  | (refine Eq.trans (by assumption) (am_copy_3 hln9 (by assumption) (by assumption) (by assumption) (by assumption) (by assumption) (by assumption) (by grind) ?_).symm; first | exact Or.inl (fun z => z.2.1 (by assumption)) | exact Or.inl (fun z => (plc_i64 (by assumption) (by assumption) (by assumption)).mpr z (by assumption)) | exact Or.inr (fun z => (plc_i64 (by assumption) (by assumption) (by assumption)).mpr z (by assumption)))
  | (refine Eq.trans (by assumption) (am_copy_4 hln9 (by assumption) (by assumption) (by assumption) (by assumption) (by assumption) (by assumption) (by grind) ((plc_i64 (by assumption) (by assumption) (by assumption)).mp (by assumption)) ((plc_i64 (by assumption) (by assumption) (by assumption)).mp (by assumption))).symm)
theorem lf_X8_copy_7 {fn_ : Nat → Int32} {fz : Nat → Int32} {fi_ : Nat → Int32} {a1 : Int32} {a3 : Int32} {a4 : Int32} {j_1 : Nat} {j_5 : Nat} {msn_11 : Int32} {r_11 : Int32} (hsz9 : ∀ j : Nat, j < 8 → fz j = -1 ∨ ∃ q : Nat, q ≤ 40 ∧ fz j = nI q) (hln9 : ∀ j : Nat, j < 8 → ¬ fz j = -1 → ¬ fn_ j = -1) (hj_1 : j_1 < 8) (hj_5 : j_5 < 8) (hs_9 : fz j_1 = -1) (hF_11_0 : (msn_11 : Int32) = 1) (h_11 : r_11 = (-1000010 - 1)) : itM fi_ = n_itc (mbl fn_ fz) (mbn fz) (itM fi_) (nI j_1) a1 (nI j_5) a3 a4 := by
  first
  | with_reducible exact (fc_0 (Or.inl (by assumption))).symm
  | with_reducible exact (fc_0 (Or.inr (by assumption))).symm
  | with_reducible exact (itc_0 (Or.inl (by assumption))).symm
  | with_reducible exact (itc_0 (Or.inr (by assumption))).symm
  | with_reducible exact yc_1 (by assumption) (by assumption) (Or.inl (by assumption)) (by assumption)
  | with_reducible exact yc_1 (by assumption) (by assumption) (Or.inr (by assumption)) (by assumption)
  | with_reducible exact yj_1 (by assumption) (by assumption) (Or.inl (by assumption))
  | with_reducible exact yj_1 (by assumption) (by assumption) (Or.inr (by assumption))
  | with_reducible exact yc_2 hln9 (by assumption) (by assumption) (by assumption) (by assumption) (by assumption) (by assumption) (by assumption) (by assumption) (by assumption) (by assumption)
  | with_reducible exact yj_2 (by assumption) (by assumption) (by assumption) (by assumption) (by assumption) (by assumption) (by assumption) (by assumption) (by assumption)
  | with_reducible exact yc_3 hln9 (by assumption) (by assumption) (by assumption) (by assumption) (by assumption) (by assumption) (by assumption) (by assumption) (by assumption) (by first | exact Or.inl (np_1 (by assumption)) | exact Or.inl (np_2 (by assumption) (by assumption) (by assumption) (by assumption)) | exact Or.inr (np_2 (by assumption) (by assumption) (by assumption) (by assumption))) (by assumption)
  | with_reducible exact yj_3 (by assumption) (by assumption) (by assumption) (by assumption) (by assumption) (by assumption) (by first | exact Or.inl (np_1 (by assumption)) | exact Or.inl (np_2 (by assumption) (by assumption) (by assumption) (by assumption)) | exact Or.inr (np_2 (by assumption) (by assumption) (by assumption) (by assumption)))
  | with_reducible exact yc_4 hln9 (by assumption) (by assumption) (by assumption) (by assumption) (by assumption) (by assumption) (by assumption) (by assumption) (by assumption) ((plc_i64 (by assumption) (by assumption) (by assumption)).mp (by assumption)) ((plc_i64 (by assumption) (by assumption) (by assumption)).mp (by assumption)) (by assumption)
  | with_reducible exact (ar_copy_0 (Or.inl (by assumption))).symm
  | with_reducible exact (ar_copy_0 (Or.inr (by assumption))).symm
  | (subst_vars; with_reducible exact (am_copy_1 (by assumption) (by assumption) (by grind)).symm)
  | (subst_vars; with_reducible exact (am_copy_2 hln9 (by assumption) (by assumption) (by assumption) (by assumption) (by assumption) (by assumption) (by assumption)).symm)
  | (refine Eq.trans (by assumption) (am_copy_3 hln9 (by assumption) (by assumption) (by assumption) (by assumption) (by assumption) (by assumption) (by grind) ?_).symm; first | exact Or.inl (fun z => z.2.1 (by assumption)) | exact Or.inl (fun z => (plc_i64 (by assumption) (by assumption) (by assumption)).mpr z (by assumption)) | exact Or.inr (fun z => (plc_i64 (by assumption) (by assumption) (by assumption)).mpr z (by assumption)))
  | (refine Eq.trans (by assumption) (am_copy_4 hln9 (by assumption) (by assumption) (by assumption) (by assumption) (by assumption) (by assumption) (by grind) ((plc_i64 (by assumption) (by assumption) (by assumption)).mp (by assumption)) ((plc_i64 (by assumption) (by assumption) (by assumption)).mp (by assumption))).symm)
theorem lf_X8_copy_8 {ms : Int32} {fn_ : Nat → Int32} {fz : Nat → Int32} {a1 : Int32} {a3 : Int32} {a4 : Int32} {j_1 : Nat} {j_5 : Nat} {msn_11 : Int32} {r_11 : Int32} (hsz9 : ∀ j : Nat, j < 8 → fz j = -1 ∨ ∃ q : Nat, q ≤ 40 ∧ fz j = nI q) (hln9 : ∀ j : Nat, j < 8 → ¬ fz j = -1 → ¬ fn_ j = -1) (hj_1 : j_1 < 8) (hj_5 : j_5 < 8) (hs_9 : fz j_1 = -1) (hF_11_0 : (msn_11 : Int32) = 1) (h_11 : r_11 = (-1000010 - 1)) : msn_11 = f_copy (mbl fn_ fz) (mbn fz) (nI j_1) a1 (nI j_5) a3 a4 ms := by
  first
  | with_reducible exact (fc_0 (Or.inl (by assumption))).symm
  | with_reducible exact (fc_0 (Or.inr (by assumption))).symm
  | with_reducible exact (itc_0 (Or.inl (by assumption))).symm
  | with_reducible exact (itc_0 (Or.inr (by assumption))).symm
  | with_reducible exact yc_1 (by assumption) (by assumption) (Or.inl (by assumption)) (by assumption)
  | with_reducible exact yc_1 (by assumption) (by assumption) (Or.inr (by assumption)) (by assumption)
  | with_reducible exact yj_1 (by assumption) (by assumption) (Or.inl (by assumption))
  | with_reducible exact yj_1 (by assumption) (by assumption) (Or.inr (by assumption))
  | with_reducible exact yc_2 hln9 (by assumption) (by assumption) (by assumption) (by assumption) (by assumption) (by assumption) (by assumption) (by assumption) (by assumption) (by assumption)
  | with_reducible exact yj_2 (by assumption) (by assumption) (by assumption) (by assumption) (by assumption) (by assumption) (by assumption) (by assumption) (by assumption)
  | with_reducible exact yc_3 hln9 (by assumption) (by assumption) (by assumption) (by assumption) (by assumption) (by assumption) (by assumption) (by assumption) (by assumption) (by first | exact Or.inl (np_1 (by assumption)) | exact Or.inl (np_2 (by assumption) (by assumption) (by assumption) (by assumption)) | exact Or.inr (np_2 (by assumption) (by assumption) (by assumption) (by assumption))) (by assumption)
  | with_reducible exact yj_3 (by assumption) (by assumption) (by assumption) (by assumption) (by assumption) (by assumption) (by first | exact Or.inl (np_1 (by assumption)) | exact Or.inl (np_2 (by assumption) (by assumption) (by assumption) (by assumption)) | exact Or.inr (np_2 (by assumption) (by assumption) (by assumption) (by assumption)))
  | with_reducible exact yc_4 hln9 (by assumption) (by assumption) (by assumption) (by assumption) (by assumption) (by assumption) (by assumption) (by assumption) (by assumption) ((plc_i64 (by assumption) (by assumption) (by assumption)).mp (by assumption)) ((plc_i64 (by assumption) (by assumption) (by assumption)).mp (by assumption)) (by assumption)
  | with_reducible exact (ar_copy_0 (Or.inl (by assumption))).symm
  | with_reducible exact (ar_copy_0 (Or.inr (by assumption))).symm
  | (subst_vars; with_reducible exact (am_copy_1 (by assumption) (by assumption) (by grind)).symm)
  | (subst_vars; with_reducible exact (am_copy_2 hln9 (by assumption) (by assumption) (by assumption) (by assumption) (by assumption) (by assumption) (by assumption)).symm)
  | (refine Eq.trans (by assumption) (am_copy_3 hln9 (by assumption) (by assumption) (by assumption) (by assumption) (by assumption) (by assumption) (by grind) ?_).symm; first | exact Or.inl (fun z => z.2.1 (by assumption)) | exact Or.inl (fun z => (plc_i64 (by assumption) (by assumption) (by assumption)).mpr z (by assumption)) | exact Or.inr (fun z => (plc_i64 (by assumption) (by assumption) (by assumption)).mpr z (by assumption)))
  | (refine Eq.trans (by assumption) (am_copy_4 hln9 (by assumption) (by assumption) (by assumption) (by assumption) (by assumption) (by assumption) (by grind) ((plc_i64 (by assumption) (by assumption) (by assumption)).mp (by assumption)) ((plc_i64 (by assumption) (by assumption) (by assumption)).mp (by assumption))).symm)
theorem lf_X8_copy_9 {fn_ : Nat → Int32} {fz : Nat → Int32} {a1 : Int32} {a3 : Int32} {a4 : Int32} {j_1 : Nat} {j_5 : Nat} {msn_11 : Int32} {r_11 : Int32} (hsz9 : ∀ j : Nat, j < 8 → fz j = -1 ∨ ∃ q : Nat, q ≤ 40 ∧ fz j = nI q) (hln9 : ∀ j : Nat, j < 8 → ¬ fz j = -1 → ¬ fn_ j = -1) (hj_1 : j_1 < 8) (hj_5 : j_5 < 8) (hs_9 : fz j_1 = -1) (hF_11_0 : (msn_11 : Int32) = 1) (h_11 : r_11 = (-1000010 - 1)) : r_11 = (ar_copy (mbl fn_ fz) (mbn fz) (nI j_1) a1 (nI j_5) a3 a4) := by
  first
  | with_reducible exact (fc_0 (Or.inl (by assumption))).symm
  | with_reducible exact (fc_0 (Or.inr (by assumption))).symm
  | with_reducible exact (itc_0 (Or.inl (by assumption))).symm
  | with_reducible exact (itc_0 (Or.inr (by assumption))).symm
  | with_reducible exact yc_1 (by assumption) (by assumption) (Or.inl (by assumption)) (by assumption)
  | with_reducible exact yc_1 (by assumption) (by assumption) (Or.inr (by assumption)) (by assumption)
  | with_reducible exact yj_1 (by assumption) (by assumption) (Or.inl (by assumption))
  | with_reducible exact yj_1 (by assumption) (by assumption) (Or.inr (by assumption))
  | with_reducible exact yc_2 hln9 (by assumption) (by assumption) (by assumption) (by assumption) (by assumption) (by assumption) (by assumption) (by assumption) (by assumption) (by assumption)
  | with_reducible exact yj_2 (by assumption) (by assumption) (by assumption) (by assumption) (by assumption) (by assumption) (by assumption) (by assumption) (by assumption)
  | with_reducible exact yc_3 hln9 (by assumption) (by assumption) (by assumption) (by assumption) (by assumption) (by assumption) (by assumption) (by assumption) (by assumption) (by first | exact Or.inl (np_1 (by assumption)) | exact Or.inl (np_2 (by assumption) (by assumption) (by assumption) (by assumption)) | exact Or.inr (np_2 (by assumption) (by assumption) (by assumption) (by assumption))) (by assumption)
  | with_reducible exact yj_3 (by assumption) (by assumption) (by assumption) (by assumption) (by assumption) (by assumption) (by first | exact Or.inl (np_1 (by assumption)) | exact Or.inl (np_2 (by assumption) (by assumption) (by assumption) (by assumption)) | exact Or.inr (np_2 (by assumption) (by assumption) (by assumption) (by assumption)))
  | with_reducible exact yc_4 hln9 (by assumption) (by assumption) (by assumption) (by assumption) (by assumption) (by assumption) (by assumption) (by assumption) (by assumption) ((plc_i64 (by assumption) (by assumption) (by assumption)).mp (by assumption)) ((plc_i64 (by assumption) (by assumption) (by assumption)).mp (by assumption)) (by assumption)
  | with_reducible exact (ar_copy_0 (Or.inl (by assumption))).symm
  | with_reducible exact (ar_copy_0 (Or.inr (by assumption))).symm
  | (subst_vars; with_reducible exact (am_copy_1 (by assumption) (by assumption) (by grind)).symm)
  | (subst_vars; with_reducible exact (am_copy_2 hln9 (by assumption) (by assumption) (by assumption) (by assumption) (by assumption) (by assumption) (by assumption)).symm)
  | (refine Eq.trans (by assumption) (am_copy_3 hln9 (by assumption) (by assumption) (by assumption) (by assumption) (by assumption) (by assumption) (by grind) ?_).symm; first | exact Or.inl (fun z => z.2.1 (by assumption)) | exact Or.inl (fun z => (plc_i64 (by assumption) (by assumption) (by assumption)).mpr z (by assumption)) | exact Or.inr (fun z => (plc_i64 (by assumption) (by assumption) (by assumption)).mpr z (by assumption)))
  | (refine Eq.trans (by assumption) (am_copy_4 hln9 (by assumption) (by assumption) (by assumption) (by assumption) (by assumption) (by assumption) (by grind) ((plc_i64 (by assumption) (by assumption) (by assumption)).mp (by assumption)) ((plc_i64 (by assumption) (by assumption) (by assumption)).mp (by assumption))).symm)
theorem lf_X8_copy_10 {fn_ : Nat → Int32} {fz : Nat → Int32} {fi_ : Nat → Int32} {a1 : Int32} {a3 : Int32} {a4 : Int32} {j_1 : Nat} {j_5 : Nat} {q_9 : Nat} {msn_15 : Int32} {r_15 : Int32} (hsz9 : ∀ j : Nat, j < 8 → fz j = -1 ∨ ∃ q : Nat, q ≤ 40 ∧ fz j = nI q) (hln9 : ∀ j : Nat, j < 8 → ¬ fz j = -1 → ¬ fn_ j = -1) (hj_1 : j_1 < 8) (hj_5 : j_5 < 8) (hs_9 : fz j_1 = nI q_9) (hq_9 : q_9 ≤ 40) (hs_13 : fz j_5 = -1) (hF_15_0 : (msn_15 : Int32) = 1) (h_15 : r_15 = (-1000010 - 1)) : itM fi_ = n_itc (mbl fn_ fz) (mbn fz) (itM fi_) (nI j_1) a1 (nI j_5) a3 a4 := by
  first
  | with_reducible exact (fc_0 (Or.inl (by assumption))).symm
  | with_reducible exact (fc_0 (Or.inr (by assumption))).symm
  | with_reducible exact (itc_0 (Or.inl (by assumption))).symm
  | with_reducible exact (itc_0 (Or.inr (by assumption))).symm
  | with_reducible exact yc_1 (by assumption) (by assumption) (Or.inl (by assumption)) (by assumption)
  | with_reducible exact yc_1 (by assumption) (by assumption) (Or.inr (by assumption)) (by assumption)
  | with_reducible exact yj_1 (by assumption) (by assumption) (Or.inl (by assumption))
  | with_reducible exact yj_1 (by assumption) (by assumption) (Or.inr (by assumption))
  | with_reducible exact yc_2 hln9 (by assumption) (by assumption) (by assumption) (by assumption) (by assumption) (by assumption) (by assumption) (by assumption) (by assumption) (by assumption)
  | with_reducible exact yj_2 (by assumption) (by assumption) (by assumption) (by assumption) (by assumption) (by assumption) (by assumption) (by assumption) (by assumption)
  | with_reducible exact yc_3 hln9 (by assumption) (by assumption) (by assumption) (by assumption) (by assumption) (by assumption) (by assumption) (by assumption) (by assumption) (by first | exact Or.inl (np_1 (by assumption)) | exact Or.inl (np_2 (by assumption) (by assumption) (by assumption) (by assumption)) | exact Or.inr (np_2 (by assumption) (by assumption) (by assumption) (by assumption))) (by assumption)
  | with_reducible exact yj_3 (by assumption) (by assumption) (by assumption) (by assumption) (by assumption) (by assumption) (by first | exact Or.inl (np_1 (by assumption)) | exact Or.inl (np_2 (by assumption) (by assumption) (by assumption) (by assumption)) | exact Or.inr (np_2 (by assumption) (by assumption) (by assumption) (by assumption)))
  | with_reducible exact yc_4 hln9 (by assumption) (by assumption) (by assumption) (by assumption) (by assumption) (by assumption) (by assumption) (by assumption) (by assumption) ((plc_i64 (by assumption) (by assumption) (by assumption)).mp (by assumption)) ((plc_i64 (by assumption) (by assumption) (by assumption)).mp (by assumption)) (by assumption)
  | with_reducible exact (ar_copy_0 (Or.inl (by assumption))).symm
  | with_reducible exact (ar_copy_0 (Or.inr (by assumption))).symm
  | (subst_vars; with_reducible exact (am_copy_1 (by assumption) (by assumption) (by grind)).symm)
  | (subst_vars; with_reducible exact (am_copy_2 hln9 (by assumption) (by assumption) (by assumption) (by assumption) (by assumption) (by assumption) (by assumption)).symm)
  | (refine Eq.trans (by assumption) (am_copy_3 hln9 (by assumption) (by assumption) (by assumption) (by assumption) (by assumption) (by assumption) (by grind) ?_).symm; first | exact Or.inl (fun z => z.2.1 (by assumption)) | exact Or.inl (fun z => (plc_i64 (by assumption) (by assumption) (by assumption)).mpr z (by assumption)) | exact Or.inr (fun z => (plc_i64 (by assumption) (by assumption) (by assumption)).mpr z (by assumption)))
  | (refine Eq.trans (by assumption) (am_copy_4 hln9 (by assumption) (by assumption) (by assumption) (by assumption) (by assumption) (by assumption) (by grind) ((plc_i64 (by assumption) (by assumption) (by assumption)).mp (by assumption)) ((plc_i64 (by assumption) (by assumption) (by assumption)).mp (by assumption))).symm)
theorem lf_X8_copy_11 {ms : Int32} {fn_ : Nat → Int32} {fz : Nat → Int32} {a1 : Int32} {a3 : Int32} {a4 : Int32} {j_1 : Nat} {j_5 : Nat} {q_9 : Nat} {msn_15 : Int32} {r_15 : Int32} (hsz9 : ∀ j : Nat, j < 8 → fz j = -1 ∨ ∃ q : Nat, q ≤ 40 ∧ fz j = nI q) (hln9 : ∀ j : Nat, j < 8 → ¬ fz j = -1 → ¬ fn_ j = -1) (hj_1 : j_1 < 8) (hj_5 : j_5 < 8) (hs_9 : fz j_1 = nI q_9) (hq_9 : q_9 ≤ 40) (hs_13 : fz j_5 = -1) (hF_15_0 : (msn_15 : Int32) = 1) (h_15 : r_15 = (-1000010 - 1)) : msn_15 = f_copy (mbl fn_ fz) (mbn fz) (nI j_1) a1 (nI j_5) a3 a4 ms := by
  first
  | with_reducible exact (fc_0 (Or.inl (by assumption))).symm
  | with_reducible exact (fc_0 (Or.inr (by assumption))).symm
  | with_reducible exact (itc_0 (Or.inl (by assumption))).symm
  | with_reducible exact (itc_0 (Or.inr (by assumption))).symm
  | with_reducible exact yc_1 (by assumption) (by assumption) (Or.inl (by assumption)) (by assumption)
  | with_reducible exact yc_1 (by assumption) (by assumption) (Or.inr (by assumption)) (by assumption)
  | with_reducible exact yj_1 (by assumption) (by assumption) (Or.inl (by assumption))
  | with_reducible exact yj_1 (by assumption) (by assumption) (Or.inr (by assumption))
  | with_reducible exact yc_2 hln9 (by assumption) (by assumption) (by assumption) (by assumption) (by assumption) (by assumption) (by assumption) (by assumption) (by assumption) (by assumption)
  | with_reducible exact yj_2 (by assumption) (by assumption) (by assumption) (by assumption) (by assumption) (by assumption) (by assumption) (by assumption) (by assumption)
  | with_reducible exact yc_3 hln9 (by assumption) (by assumption) (by assumption) (by assumption) (by assumption) (by assumption) (by assumption) (by assumption) (by assumption) (by first | exact Or.inl (np_1 (by assumption)) | exact Or.inl (np_2 (by assumption) (by assumption) (by assumption) (by assumption)) | exact Or.inr (np_2 (by assumption) (by assumption) (by assumption) (by assumption))) (by assumption)
  | with_reducible exact yj_3 (by assumption) (by assumption) (by assumption) (by assumption) (by assumption) (by assumption) (by first | exact Or.inl (np_1 (by assumption)) | exact Or.inl (np_2 (by assumption) (by assumption) (by assumption) (by assumption)) | exact Or.inr (np_2 (by assumption) (by assumption) (by assumption) (by assumption)))
  | with_reducible exact yc_4 hln9 (by assumption) (by assumption) (by assumption) (by assumption) (by assumption) (by assumption) (by assumption) (by assumption) (by assumption) ((plc_i64 (by assumption) (by assumption) (by assumption)).mp (by assumption)) ((plc_i64 (by assumption) (by assumption) (by assumption)).mp (by assumption)) (by assumption)
  | with_reducible exact (ar_copy_0 (Or.inl (by assumption))).symm
  | with_reducible exact (ar_copy_0 (Or.inr (by assumption))).symm
  | (subst_vars; with_reducible exact (am_copy_1 (by assumption) (by assumption) (by grind)).symm)
  | (subst_vars; with_reducible exact (am_copy_2 hln9 (by assumption) (by assumption) (by assumption) (by assumption) (by assumption) (by assumption) (by assumption)).symm)
  | (refine Eq.trans (by assumption) (am_copy_3 hln9 (by assumption) (by assumption) (by assumption) (by assumption) (by assumption) (by assumption) (by grind) ?_).symm; first | exact Or.inl (fun z => z.2.1 (by assumption)) | exact Or.inl (fun z => (plc_i64 (by assumption) (by assumption) (by assumption)).mpr z (by assumption)) | exact Or.inr (fun z => (plc_i64 (by assumption) (by assumption) (by assumption)).mpr z (by assumption)))
  | (refine Eq.trans (by assumption) (am_copy_4 hln9 (by assumption) (by assumption) (by assumption) (by assumption) (by assumption) (by assumption) (by grind) ((plc_i64 (by assumption) (by assumption) (by assumption)).mp (by assumption)) ((plc_i64 (by assumption) (by assumption) (by assumption)).mp (by assumption))).symm)
theorem lf_X8_copy_12 {fn_ : Nat → Int32} {fz : Nat → Int32} {a1 : Int32} {a3 : Int32} {a4 : Int32} {j_1 : Nat} {j_5 : Nat} {q_9 : Nat} {msn_15 : Int32} {r_15 : Int32} (hsz9 : ∀ j : Nat, j < 8 → fz j = -1 ∨ ∃ q : Nat, q ≤ 40 ∧ fz j = nI q) (hln9 : ∀ j : Nat, j < 8 → ¬ fz j = -1 → ¬ fn_ j = -1) (hj_1 : j_1 < 8) (hj_5 : j_5 < 8) (hs_9 : fz j_1 = nI q_9) (hq_9 : q_9 ≤ 40) (hs_13 : fz j_5 = -1) (hF_15_0 : (msn_15 : Int32) = 1) (h_15 : r_15 = (-1000010 - 1)) : r_15 = (ar_copy (mbl fn_ fz) (mbn fz) (nI j_1) a1 (nI j_5) a3 a4) := by
  first
  | with_reducible exact (fc_0 (Or.inl (by assumption))).symm
  | with_reducible exact (fc_0 (Or.inr (by assumption))).symm
  | with_reducible exact (itc_0 (Or.inl (by assumption))).symm
  | with_reducible exact (itc_0 (Or.inr (by assumption))).symm
  | with_reducible exact yc_1 (by assumption) (by assumption) (Or.inl (by assumption)) (by assumption)
  | with_reducible exact yc_1 (by assumption) (by assumption) (Or.inr (by assumption)) (by assumption)
  | with_reducible exact yj_1 (by assumption) (by assumption) (Or.inl (by assumption))
  | with_reducible exact yj_1 (by assumption) (by assumption) (Or.inr (by assumption))
  | with_reducible exact yc_2 hln9 (by assumption) (by assumption) (by assumption) (by assumption) (by assumption) (by assumption) (by assumption) (by assumption) (by assumption) (by assumption)
  | with_reducible exact yj_2 (by assumption) (by assumption) (by assumption) (by assumption) (by assumption) (by assumption) (by assumption) (by assumption) (by assumption)
  | with_reducible exact yc_3 hln9 (by assumption) (by assumption) (by assumption) (by assumption) (by assumption) (by assumption) (by assumption) (by assumption) (by assumption) (by first | exact Or.inl (np_1 (by assumption)) | exact Or.inl (np_2 (by assumption) (by assumption) (by assumption) (by assumption)) | exact Or.inr (np_2 (by assumption) (by assumption) (by assumption) (by assumption))) (by assumption)
  | with_reducible exact yj_3 (by assumption) (by assumption) (by assumption) (by assumption) (by assumption) (by assumption) (by first | exact Or.inl (np_1 (by assumption)) | exact Or.inl (np_2 (by assumption) (by assumption) (by assumption) (by assumption)) | exact Or.inr (np_2 (by assumption) (by assumption) (by assumption) (by assumption)))
  | with_reducible exact yc_4 hln9 (by assumption) (by assumption) (by assumption) (by assumption) (by assumption) (by assumption) (by assumption) (by assumption) (by assumption) ((plc_i64 (by assumption) (by assumption) (by assumption)).mp (by assumption)) ((plc_i64 (by assumption) (by assumption) (by assumption)).mp (by assumption)) (by assumption)
  | with_reducible exact (ar_copy_0 (Or.inl (by assumption))).symm
  | with_reducible exact (ar_copy_0 (Or.inr (by assumption))).symm
  | (subst_vars; with_reducible exact (am_copy_1 (by assumption) (by assumption) (by grind)).symm)
  | (subst_vars; with_reducible exact (am_copy_2 hln9 (by assumption) (by assumption) (by assumption) (by assumption) (by assumption) (by assumption) (by assumption)).symm)
  | (refine Eq.trans (by assumption) (am_copy_3 hln9 (by assumption) (by assumption) (by assumption) (by assumption) (by assumption) (by assumption) (by grind) ?_).symm; first | exact Or.inl (fun z => z.2.1 (by assumption)) | exact Or.inl (fun z => (plc_i64 (by assumption) (by assumption) (by assumption)).mpr z (by assumption)) | exact Or.inr (fun z => (plc_i64 (by assumption) (by assumption) (by assumption)).mpr z (by assumption)))
  | (refine Eq.trans (by assumption) (am_copy_4 hln9 (by assumption) (by assumption) (by assumption) (by assumption) (by assumption) (by assumption) (by grind) ((plc_i64 (by assumption) (by assumption) (by assumption)).mp (by assumption)) ((plc_i64 (by assumption) (by assumption) (by assumption)).mp (by assumption))).symm)
theorem lf_X8_copy_13 {fn_ : Nat → Int32} {fz : Nat → Int32} {fi_ : Nat → Int32} {a1 : Int32} {a3 : Int32} {a4 : Int32} {j_1 : Nat} {j_5 : Nat} {q_9 : Nat} {q_13 : Nat} {v_17 : Int32} {v_18 : Int32} {msn_21 : Int32} {r_21 : Int32} (hsz9 : ∀ j : Nat, j < 8 → fz j = -1 ∨ ∃ q : Nat, q ≤ 40 ∧ fz j = nI q) (hln9 : ∀ j : Nat, j < 8 → ¬ fz j = -1 → ¬ fn_ j = -1) (hj_1 : j_1 < 8) (hj_5 : j_5 < 8) (hs_9 : fz j_1 = nI q_9) (hq_9 : q_9 ≤ 40) (hs_13 : fz j_5 = nI q_13) (hq_13 : q_13 ≤ 40) (e_17 : v_17 = fn_ j_1) (e_18 : v_18 = fn_ j_5) (c_19 : v_17 = v_18) (c_20 : a4 < 0) (hF_21_0 : (msn_21 : Int32) = 2) (h_21 : r_21 = (-1000010 - 2)) : itM fi_ = n_itc (mbl fn_ fz) (mbn fz) (itM fi_) (nI j_1) a1 (nI j_5) a3 a4 := by
  first
  | with_reducible exact (fc_0 (Or.inl (by assumption))).symm
  | with_reducible exact (fc_0 (Or.inr (by assumption))).symm
  | with_reducible exact (itc_0 (Or.inl (by assumption))).symm
  | with_reducible exact (itc_0 (Or.inr (by assumption))).symm
  | with_reducible exact yc_1 (by assumption) (by assumption) (Or.inl (by assumption)) (by assumption)
  | with_reducible exact yc_1 (by assumption) (by assumption) (Or.inr (by assumption)) (by assumption)
  | with_reducible exact yj_1 (by assumption) (by assumption) (Or.inl (by assumption))
  | with_reducible exact yj_1 (by assumption) (by assumption) (Or.inr (by assumption))
  | with_reducible exact yc_2 hln9 (by assumption) (by assumption) (by assumption) (by assumption) (by assumption) (by assumption) (by assumption) (by assumption) (by assumption) (by assumption)
  | with_reducible exact yj_2 (by assumption) (by assumption) (by assumption) (by assumption) (by assumption) (by assumption) (by assumption) (by assumption) (by assumption)
  | with_reducible exact yc_3 hln9 (by assumption) (by assumption) (by assumption) (by assumption) (by assumption) (by assumption) (by assumption) (by assumption) (by assumption) (by first | exact Or.inl (np_1 (by assumption)) | exact Or.inl (np_2 (by assumption) (by assumption) (by assumption) (by assumption)) | exact Or.inr (np_2 (by assumption) (by assumption) (by assumption) (by assumption))) (by assumption)
  | with_reducible exact yj_3 (by assumption) (by assumption) (by assumption) (by assumption) (by assumption) (by assumption) (by first | exact Or.inl (np_1 (by assumption)) | exact Or.inl (np_2 (by assumption) (by assumption) (by assumption) (by assumption)) | exact Or.inr (np_2 (by assumption) (by assumption) (by assumption) (by assumption)))
  | with_reducible exact yc_4 hln9 (by assumption) (by assumption) (by assumption) (by assumption) (by assumption) (by assumption) (by assumption) (by assumption) (by assumption) ((plc_i64 (by assumption) (by assumption) (by assumption)).mp (by assumption)) ((plc_i64 (by assumption) (by assumption) (by assumption)).mp (by assumption)) (by assumption)
  | with_reducible exact (ar_copy_0 (Or.inl (by assumption))).symm
  | with_reducible exact (ar_copy_0 (Or.inr (by assumption))).symm
  | (subst_vars; with_reducible exact (am_copy_1 (by assumption) (by assumption) (by grind)).symm)
  | (subst_vars; with_reducible exact (am_copy_2 hln9 (by assumption) (by assumption) (by assumption) (by assumption) (by assumption) (by assumption) (by assumption)).symm)
  | (refine Eq.trans (by assumption) (am_copy_3 hln9 (by assumption) (by assumption) (by assumption) (by assumption) (by assumption) (by assumption) (by grind) ?_).symm; first | exact Or.inl (fun z => z.2.1 (by assumption)) | exact Or.inl (fun z => (plc_i64 (by assumption) (by assumption) (by assumption)).mpr z (by assumption)) | exact Or.inr (fun z => (plc_i64 (by assumption) (by assumption) (by assumption)).mpr z (by assumption)))
  | (refine Eq.trans (by assumption) (am_copy_4 hln9 (by assumption) (by assumption) (by assumption) (by assumption) (by assumption) (by assumption) (by grind) ((plc_i64 (by assumption) (by assumption) (by assumption)).mp (by assumption)) ((plc_i64 (by assumption) (by assumption) (by assumption)).mp (by assumption))).symm)
theorem lf_X8_copy_14 {ms : Int32} {fn_ : Nat → Int32} {fz : Nat → Int32} {a1 : Int32} {a3 : Int32} {a4 : Int32} {j_1 : Nat} {j_5 : Nat} {q_9 : Nat} {q_13 : Nat} {v_17 : Int32} {v_18 : Int32} {msn_21 : Int32} {r_21 : Int32} (hsz9 : ∀ j : Nat, j < 8 → fz j = -1 ∨ ∃ q : Nat, q ≤ 40 ∧ fz j = nI q) (hln9 : ∀ j : Nat, j < 8 → ¬ fz j = -1 → ¬ fn_ j = -1) (hj_1 : j_1 < 8) (hj_5 : j_5 < 8) (hs_9 : fz j_1 = nI q_9) (hq_9 : q_9 ≤ 40) (hs_13 : fz j_5 = nI q_13) (hq_13 : q_13 ≤ 40) (e_17 : v_17 = fn_ j_1) (e_18 : v_18 = fn_ j_5) (c_19 : v_17 = v_18) (c_20 : a4 < 0) (hF_21_0 : (msn_21 : Int32) = 2) (h_21 : r_21 = (-1000010 - 2)) : msn_21 = f_copy (mbl fn_ fz) (mbn fz) (nI j_1) a1 (nI j_5) a3 a4 ms := by
  first
  | with_reducible exact (fc_0 (Or.inl (by assumption))).symm
  | with_reducible exact (fc_0 (Or.inr (by assumption))).symm
  | with_reducible exact (itc_0 (Or.inl (by assumption))).symm
  | with_reducible exact (itc_0 (Or.inr (by assumption))).symm
  | with_reducible exact yc_1 (by assumption) (by assumption) (Or.inl (by assumption)) (by assumption)
  | with_reducible exact yc_1 (by assumption) (by assumption) (Or.inr (by assumption)) (by assumption)
  | with_reducible exact yj_1 (by assumption) (by assumption) (Or.inl (by assumption))
  | with_reducible exact yj_1 (by assumption) (by assumption) (Or.inr (by assumption))
  | with_reducible exact yc_2 hln9 (by assumption) (by assumption) (by assumption) (by assumption) (by assumption) (by assumption) (by assumption) (by assumption) (by assumption) (by assumption)
  | with_reducible exact yj_2 (by assumption) (by assumption) (by assumption) (by assumption) (by assumption) (by assumption) (by assumption) (by assumption) (by assumption)
  | with_reducible exact yc_3 hln9 (by assumption) (by assumption) (by assumption) (by assumption) (by assumption) (by assumption) (by assumption) (by assumption) (by assumption) (by first | exact Or.inl (np_1 (by assumption)) | exact Or.inl (np_2 (by assumption) (by assumption) (by assumption) (by assumption)) | exact Or.inr (np_2 (by assumption) (by assumption) (by assumption) (by assumption))) (by assumption)
  | with_reducible exact yj_3 (by assumption) (by assumption) (by assumption) (by assumption) (by assumption) (by assumption) (by first | exact Or.inl (np_1 (by assumption)) | exact Or.inl (np_2 (by assumption) (by assumption) (by assumption) (by assumption)) | exact Or.inr (np_2 (by assumption) (by assumption) (by assumption) (by assumption)))
  | with_reducible exact yc_4 hln9 (by assumption) (by assumption) (by assumption) (by assumption) (by assumption) (by assumption) (by assumption) (by assumption) (by assumption) ((plc_i64 (by assumption) (by assumption) (by assumption)).mp (by assumption)) ((plc_i64 (by assumption) (by assumption) (by assumption)).mp (by assumption)) (by assumption)
  | with_reducible exact (ar_copy_0 (Or.inl (by assumption))).symm
  | with_reducible exact (ar_copy_0 (Or.inr (by assumption))).symm
  | (subst_vars; with_reducible exact (am_copy_1 (by assumption) (by assumption) (by grind)).symm)
  | (subst_vars; with_reducible exact (am_copy_2 hln9 (by assumption) (by assumption) (by assumption) (by assumption) (by assumption) (by assumption) (by assumption)).symm)
  | (refine Eq.trans (by assumption) (am_copy_3 hln9 (by assumption) (by assumption) (by assumption) (by assumption) (by assumption) (by assumption) (by grind) ?_).symm; first | exact Or.inl (fun z => z.2.1 (by assumption)) | exact Or.inl (fun z => (plc_i64 (by assumption) (by assumption) (by assumption)).mpr z (by assumption)) | exact Or.inr (fun z => (plc_i64 (by assumption) (by assumption) (by assumption)).mpr z (by assumption)))
  | (refine Eq.trans (by assumption) (am_copy_4 hln9 (by assumption) (by assumption) (by assumption) (by assumption) (by assumption) (by assumption) (by grind) ((plc_i64 (by assumption) (by assumption) (by assumption)).mp (by assumption)) ((plc_i64 (by assumption) (by assumption) (by assumption)).mp (by assumption))).symm)
theorem lf_X8_copy_15 {fn_ : Nat → Int32} {fz : Nat → Int32} {a1 : Int32} {a3 : Int32} {a4 : Int32} {j_1 : Nat} {j_5 : Nat} {q_9 : Nat} {q_13 : Nat} {v_17 : Int32} {v_18 : Int32} {msn_21 : Int32} {r_21 : Int32} (hsz9 : ∀ j : Nat, j < 8 → fz j = -1 ∨ ∃ q : Nat, q ≤ 40 ∧ fz j = nI q) (hln9 : ∀ j : Nat, j < 8 → ¬ fz j = -1 → ¬ fn_ j = -1) (hj_1 : j_1 < 8) (hj_5 : j_5 < 8) (hs_9 : fz j_1 = nI q_9) (hq_9 : q_9 ≤ 40) (hs_13 : fz j_5 = nI q_13) (hq_13 : q_13 ≤ 40) (e_17 : v_17 = fn_ j_1) (e_18 : v_18 = fn_ j_5) (c_19 : v_17 = v_18) (c_20 : a4 < 0) (hF_21_0 : (msn_21 : Int32) = 2) (h_21 : r_21 = (-1000010 - 2)) : r_21 = (ar_copy (mbl fn_ fz) (mbn fz) (nI j_1) a1 (nI j_5) a3 a4) := by
  first
  | with_reducible exact (fc_0 (Or.inl (by assumption))).symm
  | with_reducible exact (fc_0 (Or.inr (by assumption))).symm
  | with_reducible exact (itc_0 (Or.inl (by assumption))).symm
  | with_reducible exact (itc_0 (Or.inr (by assumption))).symm
  | with_reducible exact yc_1 (by assumption) (by assumption) (Or.inl (by assumption)) (by assumption)
  | with_reducible exact yc_1 (by assumption) (by assumption) (Or.inr (by assumption)) (by assumption)
  | with_reducible exact yj_1 (by assumption) (by assumption) (Or.inl (by assumption))
  | with_reducible exact yj_1 (by assumption) (by assumption) (Or.inr (by assumption))
  | with_reducible exact yc_2 hln9 (by assumption) (by assumption) (by assumption) (by assumption) (by assumption) (by assumption) (by assumption) (by assumption) (by assumption) (by assumption)
  | with_reducible exact yj_2 (by assumption) (by assumption) (by assumption) (by assumption) (by assumption) (by assumption) (by assumption) (by assumption) (by assumption)
  | with_reducible exact yc_3 hln9 (by assumption) (by assumption) (by assumption) (by assumption) (by assumption) (by assumption) (by assumption) (by assumption) (by assumption) (by first | exact Or.inl (np_1 (by assumption)) | exact Or.inl (np_2 (by assumption) (by assumption) (by assumption) (by assumption)) | exact Or.inr (np_2 (by assumption) (by assumption) (by assumption) (by assumption))) (by assumption)
  | with_reducible exact yj_3 (by assumption) (by assumption) (by assumption) (by assumption) (by assumption) (by assumption) (by first | exact Or.inl (np_1 (by assumption)) | exact Or.inl (np_2 (by assumption) (by assumption) (by assumption) (by assumption)) | exact Or.inr (np_2 (by assumption) (by assumption) (by assumption) (by assumption)))
  | with_reducible exact yc_4 hln9 (by assumption) (by assumption) (by assumption) (by assumption) (by assumption) (by assumption) (by assumption) (by assumption) (by assumption) ((plc_i64 (by assumption) (by assumption) (by assumption)).mp (by assumption)) ((plc_i64 (by assumption) (by assumption) (by assumption)).mp (by assumption)) (by assumption)
  | with_reducible exact (ar_copy_0 (Or.inl (by assumption))).symm
  | with_reducible exact (ar_copy_0 (Or.inr (by assumption))).symm
  | (subst_vars; with_reducible exact (am_copy_1 (by assumption) (by assumption) (by grind)).symm)
  | (subst_vars; with_reducible exact (am_copy_2 hln9 (by assumption) (by assumption) (by assumption) (by assumption) (by assumption) (by assumption) (by assumption)).symm)
  | (refine Eq.trans (by assumption) (am_copy_3 hln9 (by assumption) (by assumption) (by assumption) (by assumption) (by assumption) (by assumption) (by grind) ?_).symm; first | exact Or.inl (fun z => z.2.1 (by assumption)) | exact Or.inl (fun z => (plc_i64 (by assumption) (by assumption) (by assumption)).mpr z (by assumption)) | exact Or.inr (fun z => (plc_i64 (by assumption) (by assumption) (by assumption)).mpr z (by assumption)))
  | (refine Eq.trans (by assumption) (am_copy_4 hln9 (by assumption) (by assumption) (by assumption) (by assumption) (by assumption) (by assumption) (by grind) ((plc_i64 (by assumption) (by assumption) (by assumption)).mp (by assumption)) ((plc_i64 (by assumption) (by assumption) (by assumption)).mp (by assumption))).symm)
theorem lf_X8_copy_16 {fn_ : Nat → Int32} {fz : Nat → Int32} {fi_ : Nat → Int32} {a1 : Int32} {a3 : Int32} {a4 : Int32} {j_1 : Nat} {j_5 : Nat} {q_9 : Nat} {q_13 : Nat} {v_17 : Int32} {v_18 : Int32} {v_23 : Int64} {msn_26 : Int32} {r_26 : Int32} (hsz9 : ∀ j : Nat, j < 8 → fz j = -1 ∨ ∃ q : Nat, q ≤ 40 ∧ fz j = nI q) (hln9 : ∀ j : Nat, j < 8 → ¬ fz j = -1 → ¬ fn_ j = -1) (hj_1 : j_1 < 8) (hj_5 : j_5 < 8) (hs_9 : fz j_1 = nI q_9) (hq_9 : q_9 ≤ 40) (hs_13 : fz j_5 = nI q_13) (hq_13 : q_13 ≤ 40) (e_17 : v_17 = fn_ j_1) (e_18 : v_18 = fn_ j_5) (c_19 : v_17 = v_18) (c_20 : ¬ (a4 < 0)) (e_23 : v_23 = (((nI q_9)).toInt64 - (a4).toInt64)) (f_24_0_0 : ((a1).toInt64 < 0 ∨ v_23 < (a1).toInt64)) (hF_26_0 : (msn_26 : Int32) = 2) (h_26 : r_26 = (-1000010 - 2)) : itM fi_ = n_itc (mbl fn_ fz) (mbn fz) (itM fi_) (nI j_1) a1 (nI j_5) a3 a4 := by
  first
  | with_reducible exact (fc_0 (Or.inl (by assumption))).symm
  | with_reducible exact (fc_0 (Or.inr (by assumption))).symm
  | with_reducible exact (itc_0 (Or.inl (by assumption))).symm
  | with_reducible exact (itc_0 (Or.inr (by assumption))).symm
  | with_reducible exact yc_1 (by assumption) (by assumption) (Or.inl (by assumption)) (by assumption)
  | with_reducible exact yc_1 (by assumption) (by assumption) (Or.inr (by assumption)) (by assumption)
  | with_reducible exact yj_1 (by assumption) (by assumption) (Or.inl (by assumption))
  | with_reducible exact yj_1 (by assumption) (by assumption) (Or.inr (by assumption))
  | with_reducible exact yc_2 hln9 (by assumption) (by assumption) (by assumption) (by assumption) (by assumption) (by assumption) (by assumption) (by assumption) (by assumption) (by assumption)
  | with_reducible exact yj_2 (by assumption) (by assumption) (by assumption) (by assumption) (by assumption) (by assumption) (by assumption) (by assumption) (by assumption)
  | with_reducible exact yc_3 hln9 (by assumption) (by assumption) (by assumption) (by assumption) (by assumption) (by assumption) (by assumption) (by assumption) (by assumption) (by first | exact Or.inl (np_1 (by assumption)) | exact Or.inl (np_2 (by assumption) (by assumption) (by assumption) (by assumption)) | exact Or.inr (np_2 (by assumption) (by assumption) (by assumption) (by assumption))) (by assumption)
  | with_reducible exact yj_3 (by assumption) (by assumption) (by assumption) (by assumption) (by assumption) (by assumption) (by first | exact Or.inl (np_1 (by assumption)) | exact Or.inl (np_2 (by assumption) (by assumption) (by assumption) (by assumption)) | exact Or.inr (np_2 (by assumption) (by assumption) (by assumption) (by assumption)))
  | with_reducible exact yc_4 hln9 (by assumption) (by assumption) (by assumption) (by assumption) (by assumption) (by assumption) (by assumption) (by assumption) (by assumption) ((plc_i64 (by assumption) (by assumption) (by assumption)).mp (by assumption)) ((plc_i64 (by assumption) (by assumption) (by assumption)).mp (by assumption)) (by assumption)
  | with_reducible exact (ar_copy_0 (Or.inl (by assumption))).symm
  | with_reducible exact (ar_copy_0 (Or.inr (by assumption))).symm
  | (subst_vars; with_reducible exact (am_copy_1 (by assumption) (by assumption) (by grind)).symm)
  | (subst_vars; with_reducible exact (am_copy_2 hln9 (by assumption) (by assumption) (by assumption) (by assumption) (by assumption) (by assumption) (by assumption)).symm)
  | (refine Eq.trans (by assumption) (am_copy_3 hln9 (by assumption) (by assumption) (by assumption) (by assumption) (by assumption) (by assumption) (by grind) ?_).symm; first | exact Or.inl (fun z => z.2.1 (by assumption)) | exact Or.inl (fun z => (plc_i64 (by assumption) (by assumption) (by assumption)).mpr z (by assumption)) | exact Or.inr (fun z => (plc_i64 (by assumption) (by assumption) (by assumption)).mpr z (by assumption)))
  | (refine Eq.trans (by assumption) (am_copy_4 hln9 (by assumption) (by assumption) (by assumption) (by assumption) (by assumption) (by assumption) (by grind) ((plc_i64 (by assumption) (by assumption) (by assumption)).mp (by assumption)) ((plc_i64 (by assumption) (by assumption) (by assumption)).mp (by assumption))).symm)
theorem lf_X8_copy_17 {ms : Int32} {fn_ : Nat → Int32} {fz : Nat → Int32} {a1 : Int32} {a3 : Int32} {a4 : Int32} {j_1 : Nat} {j_5 : Nat} {q_9 : Nat} {q_13 : Nat} {v_17 : Int32} {v_18 : Int32} {v_23 : Int64} {msn_26 : Int32} {r_26 : Int32} (hsz9 : ∀ j : Nat, j < 8 → fz j = -1 ∨ ∃ q : Nat, q ≤ 40 ∧ fz j = nI q) (hln9 : ∀ j : Nat, j < 8 → ¬ fz j = -1 → ¬ fn_ j = -1) (hj_1 : j_1 < 8) (hj_5 : j_5 < 8) (hs_9 : fz j_1 = nI q_9) (hq_9 : q_9 ≤ 40) (hs_13 : fz j_5 = nI q_13) (hq_13 : q_13 ≤ 40) (e_17 : v_17 = fn_ j_1) (e_18 : v_18 = fn_ j_5) (c_19 : v_17 = v_18) (c_20 : ¬ (a4 < 0)) (e_23 : v_23 = (((nI q_9)).toInt64 - (a4).toInt64)) (f_24_0_0 : ((a1).toInt64 < 0 ∨ v_23 < (a1).toInt64)) (hF_26_0 : (msn_26 : Int32) = 2) (h_26 : r_26 = (-1000010 - 2)) : msn_26 = f_copy (mbl fn_ fz) (mbn fz) (nI j_1) a1 (nI j_5) a3 a4 ms := by
  first
  | with_reducible exact (fc_0 (Or.inl (by assumption))).symm
  | with_reducible exact (fc_0 (Or.inr (by assumption))).symm
  | with_reducible exact (itc_0 (Or.inl (by assumption))).symm
  | with_reducible exact (itc_0 (Or.inr (by assumption))).symm
  | with_reducible exact yc_1 (by assumption) (by assumption) (Or.inl (by assumption)) (by assumption)
  | with_reducible exact yc_1 (by assumption) (by assumption) (Or.inr (by assumption)) (by assumption)
  | with_reducible exact yj_1 (by assumption) (by assumption) (Or.inl (by assumption))
  | with_reducible exact yj_1 (by assumption) (by assumption) (Or.inr (by assumption))
  | with_reducible exact yc_2 hln9 (by assumption) (by assumption) (by assumption) (by assumption) (by assumption) (by assumption) (by assumption) (by assumption) (by assumption) (by assumption)
  | with_reducible exact yj_2 (by assumption) (by assumption) (by assumption) (by assumption) (by assumption) (by assumption) (by assumption) (by assumption) (by assumption)
  | with_reducible exact yc_3 hln9 (by assumption) (by assumption) (by assumption) (by assumption) (by assumption) (by assumption) (by assumption) (by assumption) (by assumption) (by first | exact Or.inl (np_1 (by assumption)) | exact Or.inl (np_2 (by assumption) (by assumption) (by assumption) (by assumption)) | exact Or.inr (np_2 (by assumption) (by assumption) (by assumption) (by assumption))) (by assumption)
  | with_reducible exact yj_3 (by assumption) (by assumption) (by assumption) (by assumption) (by assumption) (by assumption) (by first | exact Or.inl (np_1 (by assumption)) | exact Or.inl (np_2 (by assumption) (by assumption) (by assumption) (by assumption)) | exact Or.inr (np_2 (by assumption) (by assumption) (by assumption) (by assumption)))
  | with_reducible exact yc_4 hln9 (by assumption) (by assumption) (by assumption) (by assumption) (by assumption) (by assumption) (by assumption) (by assumption) (by assumption) ((plc_i64 (by assumption) (by assumption) (by assumption)).mp (by assumption)) ((plc_i64 (by assumption) (by assumption) (by assumption)).mp (by assumption)) (by assumption)
  | with_reducible exact (ar_copy_0 (Or.inl (by assumption))).symm
  | with_reducible exact (ar_copy_0 (Or.inr (by assumption))).symm
  | (subst_vars; with_reducible exact (am_copy_1 (by assumption) (by assumption) (by grind)).symm)
  | (subst_vars; with_reducible exact (am_copy_2 hln9 (by assumption) (by assumption) (by assumption) (by assumption) (by assumption) (by assumption) (by assumption)).symm)
  | (refine Eq.trans (by assumption) (am_copy_3 hln9 (by assumption) (by assumption) (by assumption) (by assumption) (by assumption) (by assumption) (by grind) ?_).symm; first | exact Or.inl (fun z => z.2.1 (by assumption)) | exact Or.inl (fun z => (plc_i64 (by assumption) (by assumption) (by assumption)).mpr z (by assumption)) | exact Or.inr (fun z => (plc_i64 (by assumption) (by assumption) (by assumption)).mpr z (by assumption)))
  | (refine Eq.trans (by assumption) (am_copy_4 hln9 (by assumption) (by assumption) (by assumption) (by assumption) (by assumption) (by assumption) (by grind) ((plc_i64 (by assumption) (by assumption) (by assumption)).mp (by assumption)) ((plc_i64 (by assumption) (by assumption) (by assumption)).mp (by assumption))).symm)
theorem lf_X8_copy_18 {fn_ : Nat → Int32} {fz : Nat → Int32} {a1 : Int32} {a3 : Int32} {a4 : Int32} {j_1 : Nat} {j_5 : Nat} {q_9 : Nat} {q_13 : Nat} {v_17 : Int32} {v_18 : Int32} {v_23 : Int64} {msn_26 : Int32} {r_26 : Int32} (hsz9 : ∀ j : Nat, j < 8 → fz j = -1 ∨ ∃ q : Nat, q ≤ 40 ∧ fz j = nI q) (hln9 : ∀ j : Nat, j < 8 → ¬ fz j = -1 → ¬ fn_ j = -1) (hj_1 : j_1 < 8) (hj_5 : j_5 < 8) (hs_9 : fz j_1 = nI q_9) (hq_9 : q_9 ≤ 40) (hs_13 : fz j_5 = nI q_13) (hq_13 : q_13 ≤ 40) (e_17 : v_17 = fn_ j_1) (e_18 : v_18 = fn_ j_5) (c_19 : v_17 = v_18) (c_20 : ¬ (a4 < 0)) (e_23 : v_23 = (((nI q_9)).toInt64 - (a4).toInt64)) (f_24_0_0 : ((a1).toInt64 < 0 ∨ v_23 < (a1).toInt64)) (hF_26_0 : (msn_26 : Int32) = 2) (h_26 : r_26 = (-1000010 - 2)) : r_26 = (ar_copy (mbl fn_ fz) (mbn fz) (nI j_1) a1 (nI j_5) a3 a4) := by
  first
  | with_reducible exact (fc_0 (Or.inl (by assumption))).symm
  | with_reducible exact (fc_0 (Or.inr (by assumption))).symm
  | with_reducible exact (itc_0 (Or.inl (by assumption))).symm
  | with_reducible exact (itc_0 (Or.inr (by assumption))).symm
  | with_reducible exact yc_1 (by assumption) (by assumption) (Or.inl (by assumption)) (by assumption)
  | with_reducible exact yc_1 (by assumption) (by assumption) (Or.inr (by assumption)) (by assumption)
  | with_reducible exact yj_1 (by assumption) (by assumption) (Or.inl (by assumption))
  | with_reducible exact yj_1 (by assumption) (by assumption) (Or.inr (by assumption))
  | with_reducible exact yc_2 hln9 (by assumption) (by assumption) (by assumption) (by assumption) (by assumption) (by assumption) (by assumption) (by assumption) (by assumption) (by assumption)
  | with_reducible exact yj_2 (by assumption) (by assumption) (by assumption) (by assumption) (by assumption) (by assumption) (by assumption) (by assumption) (by assumption)
  | with_reducible exact yc_3 hln9 (by assumption) (by assumption) (by assumption) (by assumption) (by assumption) (by assumption) (by assumption) (by assumption) (by assumption) (by first | exact Or.inl (np_1 (by assumption)) | exact Or.inl (np_2 (by assumption) (by assumption) (by assumption) (by assumption)) | exact Or.inr (np_2 (by assumption) (by assumption) (by assumption) (by assumption))) (by assumption)
  | with_reducible exact yj_3 (by assumption) (by assumption) (by assumption) (by assumption) (by assumption) (by assumption) (by first | exact Or.inl (np_1 (by assumption)) | exact Or.inl (np_2 (by assumption) (by assumption) (by assumption) (by assumption)) | exact Or.inr (np_2 (by assumption) (by assumption) (by assumption) (by assumption)))
  | with_reducible exact yc_4 hln9 (by assumption) (by assumption) (by assumption) (by assumption) (by assumption) (by assumption) (by assumption) (by assumption) (by assumption) ((plc_i64 (by assumption) (by assumption) (by assumption)).mp (by assumption)) ((plc_i64 (by assumption) (by assumption) (by assumption)).mp (by assumption)) (by assumption)
  | with_reducible exact (ar_copy_0 (Or.inl (by assumption))).symm
  | with_reducible exact (ar_copy_0 (Or.inr (by assumption))).symm
  | (subst_vars; with_reducible exact (am_copy_1 (by assumption) (by assumption) (by grind)).symm)
  | (subst_vars; with_reducible exact (am_copy_2 hln9 (by assumption) (by assumption) (by assumption) (by assumption) (by assumption) (by assumption) (by assumption)).symm)
  | (refine Eq.trans (by assumption) (am_copy_3 hln9 (by assumption) (by assumption) (by assumption) (by assumption) (by assumption) (by assumption) (by grind) ?_).symm; first | exact Or.inl (fun z => z.2.1 (by assumption)) | exact Or.inl (fun z => (plc_i64 (by assumption) (by assumption) (by assumption)).mpr z (by assumption)) | exact Or.inr (fun z => (plc_i64 (by assumption) (by assumption) (by assumption)).mpr z (by assumption)))
  | (refine Eq.trans (by assumption) (am_copy_4 hln9 (by assumption) (by assumption) (by assumption) (by assumption) (by assumption) (by assumption) (by grind) ((plc_i64 (by assumption) (by assumption) (by assumption)).mp (by assumption)) ((plc_i64 (by assumption) (by assumption) (by assumption)).mp (by assumption))).symm)
theorem lf_X8_copy_19 {fn_ : Nat → Int32} {fz : Nat → Int32} {fi_ : Nat → Int32} {a3 : Int32} {j_1 : Nat} {j_5 : Nat} {q_9 : Nat} {q_13 : Nat} {v_17 : Int32} {v_18 : Int32} {v_23 : Int64} {pa_27 : Nat} {pb_27 : Nat} {v_30 : Int64} {msn_33 : Int32} {r_33 : Int32} (hsz9 : ∀ j : Nat, j < 8 → fz j = -1 ∨ ∃ q : Nat, q ≤ 40 ∧ fz j = nI q) (hln9 : ∀ j : Nat, j < 8 → ¬ fz j = -1 → ¬ fn_ j = -1) (hj_1 : j_1 < 8) (hj_5 : j_5 < 8) (hs_9 : fz j_1 = nI q_9) (hq_9 : q_9 ≤ 40) (hs_13 : fz j_5 = nI q_13) (hq_13 : q_13 ≤ 40) (e_17 : v_17 = fn_ j_1) (e_18 : v_18 = fn_ j_5) (c_19 : v_17 = v_18) (c_20 : ¬ ((nI pb_27) < 0)) (e_23 : v_23 = (((nI q_9)).toInt64 - ((nI pb_27)).toInt64)) (f_24_1_0 : (¬ (((nI pa_27)).toInt64 < 0 ∨ v_23 < ((nI pa_27)).toInt64))) (hab_27 : pa_27 + pb_27 ≤ 40) (e_30 : v_30 = (((nI q_13)).toInt64 - ((nI pb_27)).toInt64)) (f_31_0_0 : ((a3).toInt64 < 0 ∨ v_30 < (a3).toInt64)) (hF_33_0 : (msn_33 : Int32) = 2) (h_33 : r_33 = (-1000010 - 2)) : itM fi_ = n_itc (mbl fn_ fz) (mbn fz) (itM fi_) (nI j_1) (nI pa_27) (nI j_5) a3 (nI pb_27) := by
  first
  | with_reducible exact (fc_0 (Or.inl (by assumption))).symm
  | with_reducible exact (fc_0 (Or.inr (by assumption))).symm
  | with_reducible exact (itc_0 (Or.inl (by assumption))).symm
  | with_reducible exact (itc_0 (Or.inr (by assumption))).symm
  | with_reducible exact yc_1 (by assumption) (by assumption) (Or.inl (by assumption)) (by assumption)
  | with_reducible exact yc_1 (by assumption) (by assumption) (Or.inr (by assumption)) (by assumption)
  | with_reducible exact yj_1 (by assumption) (by assumption) (Or.inl (by assumption))
  | with_reducible exact yj_1 (by assumption) (by assumption) (Or.inr (by assumption))
  | with_reducible exact yc_2 hln9 (by assumption) (by assumption) (by assumption) (by assumption) (by assumption) (by assumption) (by assumption) (by assumption) (by assumption) (by assumption)
  | with_reducible exact yj_2 (by assumption) (by assumption) (by assumption) (by assumption) (by assumption) (by assumption) (by assumption) (by assumption) (by assumption)
  | with_reducible exact yc_3 hln9 (by assumption) (by assumption) (by assumption) (by assumption) (by assumption) (by assumption) (by assumption) (by assumption) (by assumption) (by first | exact Or.inl (np_1 (by assumption)) | exact Or.inl (np_2 (by assumption) (by assumption) (by assumption) (by assumption)) | exact Or.inr (np_2 (by assumption) (by assumption) (by assumption) (by assumption))) (by assumption)
  | with_reducible exact yj_3 (by assumption) (by assumption) (by assumption) (by assumption) (by assumption) (by assumption) (by first | exact Or.inl (np_1 (by assumption)) | exact Or.inl (np_2 (by assumption) (by assumption) (by assumption) (by assumption)) | exact Or.inr (np_2 (by assumption) (by assumption) (by assumption) (by assumption)))
  | with_reducible exact yc_4 hln9 (by assumption) (by assumption) (by assumption) (by assumption) (by assumption) (by assumption) (by assumption) (by assumption) (by assumption) ((plc_i64 (by assumption) (by assumption) (by assumption)).mp (by assumption)) ((plc_i64 (by assumption) (by assumption) (by assumption)).mp (by assumption)) (by assumption)
  | with_reducible exact (ar_copy_0 (Or.inl (by assumption))).symm
  | with_reducible exact (ar_copy_0 (Or.inr (by assumption))).symm
  | (subst_vars; with_reducible exact (am_copy_1 (by assumption) (by assumption) (by grind)).symm)
  | (subst_vars; with_reducible exact (am_copy_2 hln9 (by assumption) (by assumption) (by assumption) (by assumption) (by assumption) (by assumption) (by assumption)).symm)
  | (refine Eq.trans (by assumption) (am_copy_3 hln9 (by assumption) (by assumption) (by assumption) (by assumption) (by assumption) (by assumption) (by grind) ?_).symm; first | exact Or.inl (fun z => z.2.1 (by assumption)) | exact Or.inl (fun z => (plc_i64 (by assumption) (by assumption) (by assumption)).mpr z (by assumption)) | exact Or.inr (fun z => (plc_i64 (by assumption) (by assumption) (by assumption)).mpr z (by assumption)))
  | (refine Eq.trans (by assumption) (am_copy_4 hln9 (by assumption) (by assumption) (by assumption) (by assumption) (by assumption) (by assumption) (by grind) ((plc_i64 (by assumption) (by assumption) (by assumption)).mp (by assumption)) ((plc_i64 (by assumption) (by assumption) (by assumption)).mp (by assumption))).symm)
theorem lf_X8_copy_20 {ms : Int32} {fn_ : Nat → Int32} {fz : Nat → Int32} {a3 : Int32} {j_1 : Nat} {j_5 : Nat} {q_9 : Nat} {q_13 : Nat} {v_17 : Int32} {v_18 : Int32} {v_23 : Int64} {pa_27 : Nat} {pb_27 : Nat} {v_30 : Int64} {msn_33 : Int32} {r_33 : Int32} (hsz9 : ∀ j : Nat, j < 8 → fz j = -1 ∨ ∃ q : Nat, q ≤ 40 ∧ fz j = nI q) (hln9 : ∀ j : Nat, j < 8 → ¬ fz j = -1 → ¬ fn_ j = -1) (hj_1 : j_1 < 8) (hj_5 : j_5 < 8) (hs_9 : fz j_1 = nI q_9) (hq_9 : q_9 ≤ 40) (hs_13 : fz j_5 = nI q_13) (hq_13 : q_13 ≤ 40) (e_17 : v_17 = fn_ j_1) (e_18 : v_18 = fn_ j_5) (c_19 : v_17 = v_18) (c_20 : ¬ ((nI pb_27) < 0)) (e_23 : v_23 = (((nI q_9)).toInt64 - ((nI pb_27)).toInt64)) (f_24_1_0 : (¬ (((nI pa_27)).toInt64 < 0 ∨ v_23 < ((nI pa_27)).toInt64))) (hab_27 : pa_27 + pb_27 ≤ 40) (e_30 : v_30 = (((nI q_13)).toInt64 - ((nI pb_27)).toInt64)) (f_31_0_0 : ((a3).toInt64 < 0 ∨ v_30 < (a3).toInt64)) (hF_33_0 : (msn_33 : Int32) = 2) (h_33 : r_33 = (-1000010 - 2)) : msn_33 = f_copy (mbl fn_ fz) (mbn fz) (nI j_1) (nI pa_27) (nI j_5) a3 (nI pb_27) ms := by
  first
  | with_reducible exact (fc_0 (Or.inl (by assumption))).symm
  | with_reducible exact (fc_0 (Or.inr (by assumption))).symm
  | with_reducible exact (itc_0 (Or.inl (by assumption))).symm
  | with_reducible exact (itc_0 (Or.inr (by assumption))).symm
  | with_reducible exact yc_1 (by assumption) (by assumption) (Or.inl (by assumption)) (by assumption)
  | with_reducible exact yc_1 (by assumption) (by assumption) (Or.inr (by assumption)) (by assumption)
  | with_reducible exact yj_1 (by assumption) (by assumption) (Or.inl (by assumption))
  | with_reducible exact yj_1 (by assumption) (by assumption) (Or.inr (by assumption))
  | with_reducible exact yc_2 hln9 (by assumption) (by assumption) (by assumption) (by assumption) (by assumption) (by assumption) (by assumption) (by assumption) (by assumption) (by assumption)
  | with_reducible exact yj_2 (by assumption) (by assumption) (by assumption) (by assumption) (by assumption) (by assumption) (by assumption) (by assumption) (by assumption)
  | with_reducible exact yc_3 hln9 (by assumption) (by assumption) (by assumption) (by assumption) (by assumption) (by assumption) (by assumption) (by assumption) (by assumption) (by first | exact Or.inl (np_1 (by assumption)) | exact Or.inl (np_2 (by assumption) (by assumption) (by assumption) (by assumption)) | exact Or.inr (np_2 (by assumption) (by assumption) (by assumption) (by assumption))) (by assumption)
  | with_reducible exact yj_3 (by assumption) (by assumption) (by assumption) (by assumption) (by assumption) (by assumption) (by first | exact Or.inl (np_1 (by assumption)) | exact Or.inl (np_2 (by assumption) (by assumption) (by assumption) (by assumption)) | exact Or.inr (np_2 (by assumption) (by assumption) (by assumption) (by assumption)))
  | with_reducible exact yc_4 hln9 (by assumption) (by assumption) (by assumption) (by assumption) (by assumption) (by assumption) (by assumption) (by assumption) (by assumption) ((plc_i64 (by assumption) (by assumption) (by assumption)).mp (by assumption)) ((plc_i64 (by assumption) (by assumption) (by assumption)).mp (by assumption)) (by assumption)
  | with_reducible exact (ar_copy_0 (Or.inl (by assumption))).symm
  | with_reducible exact (ar_copy_0 (Or.inr (by assumption))).symm
  | (subst_vars; with_reducible exact (am_copy_1 (by assumption) (by assumption) (by grind)).symm)
  | (subst_vars; with_reducible exact (am_copy_2 hln9 (by assumption) (by assumption) (by assumption) (by assumption) (by assumption) (by assumption) (by assumption)).symm)
  | (refine Eq.trans (by assumption) (am_copy_3 hln9 (by assumption) (by assumption) (by assumption) (by assumption) (by assumption) (by assumption) (by grind) ?_).symm; first | exact Or.inl (fun z => z.2.1 (by assumption)) | exact Or.inl (fun z => (plc_i64 (by assumption) (by assumption) (by assumption)).mpr z (by assumption)) | exact Or.inr (fun z => (plc_i64 (by assumption) (by assumption) (by assumption)).mpr z (by assumption)))
  | (refine Eq.trans (by assumption) (am_copy_4 hln9 (by assumption) (by assumption) (by assumption) (by assumption) (by assumption) (by assumption) (by grind) ((plc_i64 (by assumption) (by assumption) (by assumption)).mp (by assumption)) ((plc_i64 (by assumption) (by assumption) (by assumption)).mp (by assumption))).symm)
theorem lf_X8_copy_21 {fn_ : Nat → Int32} {fz : Nat → Int32} {a3 : Int32} {j_1 : Nat} {j_5 : Nat} {q_9 : Nat} {q_13 : Nat} {v_17 : Int32} {v_18 : Int32} {v_23 : Int64} {pa_27 : Nat} {pb_27 : Nat} {v_30 : Int64} {msn_33 : Int32} {r_33 : Int32} (hsz9 : ∀ j : Nat, j < 8 → fz j = -1 ∨ ∃ q : Nat, q ≤ 40 ∧ fz j = nI q) (hln9 : ∀ j : Nat, j < 8 → ¬ fz j = -1 → ¬ fn_ j = -1) (hj_1 : j_1 < 8) (hj_5 : j_5 < 8) (hs_9 : fz j_1 = nI q_9) (hq_9 : q_9 ≤ 40) (hs_13 : fz j_5 = nI q_13) (hq_13 : q_13 ≤ 40) (e_17 : v_17 = fn_ j_1) (e_18 : v_18 = fn_ j_5) (c_19 : v_17 = v_18) (c_20 : ¬ ((nI pb_27) < 0)) (e_23 : v_23 = (((nI q_9)).toInt64 - ((nI pb_27)).toInt64)) (f_24_1_0 : (¬ (((nI pa_27)).toInt64 < 0 ∨ v_23 < ((nI pa_27)).toInt64))) (hab_27 : pa_27 + pb_27 ≤ 40) (e_30 : v_30 = (((nI q_13)).toInt64 - ((nI pb_27)).toInt64)) (f_31_0_0 : ((a3).toInt64 < 0 ∨ v_30 < (a3).toInt64)) (hF_33_0 : (msn_33 : Int32) = 2) (h_33 : r_33 = (-1000010 - 2)) : r_33 = (ar_copy (mbl fn_ fz) (mbn fz) (nI j_1) (nI pa_27) (nI j_5) a3 (nI pb_27)) := by
  first
  | with_reducible exact (fc_0 (Or.inl (by assumption))).symm
  | with_reducible exact (fc_0 (Or.inr (by assumption))).symm
  | with_reducible exact (itc_0 (Or.inl (by assumption))).symm
  | with_reducible exact (itc_0 (Or.inr (by assumption))).symm
  | with_reducible exact yc_1 (by assumption) (by assumption) (Or.inl (by assumption)) (by assumption)
  | with_reducible exact yc_1 (by assumption) (by assumption) (Or.inr (by assumption)) (by assumption)
  | with_reducible exact yj_1 (by assumption) (by assumption) (Or.inl (by assumption))
  | with_reducible exact yj_1 (by assumption) (by assumption) (Or.inr (by assumption))
  | with_reducible exact yc_2 hln9 (by assumption) (by assumption) (by assumption) (by assumption) (by assumption) (by assumption) (by assumption) (by assumption) (by assumption) (by assumption)
  | with_reducible exact yj_2 (by assumption) (by assumption) (by assumption) (by assumption) (by assumption) (by assumption) (by assumption) (by assumption) (by assumption)
  | with_reducible exact yc_3 hln9 (by assumption) (by assumption) (by assumption) (by assumption) (by assumption) (by assumption) (by assumption) (by assumption) (by assumption) (by first | exact Or.inl (np_1 (by assumption)) | exact Or.inl (np_2 (by assumption) (by assumption) (by assumption) (by assumption)) | exact Or.inr (np_2 (by assumption) (by assumption) (by assumption) (by assumption))) (by assumption)
  | with_reducible exact yj_3 (by assumption) (by assumption) (by assumption) (by assumption) (by assumption) (by assumption) (by first | exact Or.inl (np_1 (by assumption)) | exact Or.inl (np_2 (by assumption) (by assumption) (by assumption) (by assumption)) | exact Or.inr (np_2 (by assumption) (by assumption) (by assumption) (by assumption)))
  | with_reducible exact yc_4 hln9 (by assumption) (by assumption) (by assumption) (by assumption) (by assumption) (by assumption) (by assumption) (by assumption) (by assumption) ((plc_i64 (by assumption) (by assumption) (by assumption)).mp (by assumption)) ((plc_i64 (by assumption) (by assumption) (by assumption)).mp (by assumption)) (by assumption)
  | with_reducible exact (ar_copy_0 (Or.inl (by assumption))).symm
  | with_reducible exact (ar_copy_0 (Or.inr (by assumption))).symm
  | (subst_vars; with_reducible exact (am_copy_1 (by assumption) (by assumption) (by grind)).symm)
  | (subst_vars; with_reducible exact (am_copy_2 hln9 (by assumption) (by assumption) (by assumption) (by assumption) (by assumption) (by assumption) (by assumption)).symm)
  | (refine Eq.trans (by assumption) (am_copy_3 hln9 (by assumption) (by assumption) (by assumption) (by assumption) (by assumption) (by assumption) (by grind) ?_).symm; first | exact Or.inl (fun z => z.2.1 (by assumption)) | exact Or.inl (fun z => (plc_i64 (by assumption) (by assumption) (by assumption)).mpr z (by assumption)) | exact Or.inr (fun z => (plc_i64 (by assumption) (by assumption) (by assumption)).mpr z (by assumption)))
  | (refine Eq.trans (by assumption) (am_copy_4 hln9 (by assumption) (by assumption) (by assumption) (by assumption) (by assumption) (by assumption) (by grind) ((plc_i64 (by assumption) (by assumption) (by assumption)).mp (by assumption)) ((plc_i64 (by assumption) (by assumption) (by assumption)).mp (by assumption))).symm)
theorem lf_X8_copy_22 {fn_ : Nat → Int32} {fz : Nat → Int32} {fi_ : Nat → Int32} {j_1 : Nat} {j_5 : Nat} {q_9 : Nat} {q_13 : Nat} {v_17 : Int32} {v_18 : Int32} {v_23 : Int64} {pa_27 : Nat} {pb_27 : Nat} {v_30 : Int64} {pa_34 : Nat} {pb_34 : Nat} {w_42 : Nat → Int32} {w_63 : Nat → Int32} {msn_78 : Int32} {r_78 : Int32} (hsz9 : ∀ j : Nat, j < 8 → fz j = -1 ∨ ∃ q : Nat, q ≤ 40 ∧ fz j = nI q) (hln9 : ∀ j : Nat, j < 8 → ¬ fz j = -1 → ¬ fn_ j = -1) (hj_1 : j_1 < 8) (hj_5 : j_5 < 8) (hs_9 : fz j_1 = nI q_9) (hq_9 : q_9 ≤ 40) (hs_13 : fz j_5 = nI q_13) (hq_13 : q_13 ≤ 40) (e_17 : v_17 = fn_ j_1) (e_18 : v_18 = fn_ j_5) (c_19 : v_17 = v_18) (c_20 : ¬ ((nI pb_27) < 0)) (e_23 : v_23 = (((nI q_9)).toInt64 - ((nI pb_27)).toInt64)) (f_24_1_0 : (¬ (((nI pa_27)).toInt64 < 0 ∨ v_23 < ((nI pa_27)).toInt64))) (hab_27 : pa_27 + pb_27 ≤ 40) (e_30 : v_30 = (((nI q_13)).toInt64 - ((nI pb_27)).toInt64)) (f_31_1_0 : (¬ (((nI pa_34)).toInt64 < 0 ∨ v_30 < ((nI pa_34)).toInt64))) (hab_34 : pa_34 + pb_34 ≤ 40) (eb_34 : pb_27 = pb_34) (haf_m : (∀ j : Nat, j < pb_27 → w_42 j = fi_ ((40 * j_1 + pa_27) + j))) (haf_0 : (∀ j : Nat, j < pb_27 → w_63 ((40 * j_5 + pa_34) + j) = w_42 j)) (haf_1 : (∀ j : Nat, j < (40 * j_5 + pa_34) ∨ (40 * j_5 + pa_34) + pb_27 ≤ j → w_63 j = fi_ j)) (hF_78_0 : (msn_78 : Int32) = 0) (h_78 : r_78 = (nI pb_27)) : itM w_63 = n_itc (mbl fn_ fz) (mbn fz) (itM fi_) (nI j_1) (nI pa_27) (nI j_5) (nI pa_34) (nI pb_27) := by
  first
  | with_reducible exact (fc_0 (Or.inl (by assumption))).symm
  | with_reducible exact (fc_0 (Or.inr (by assumption))).symm
  | with_reducible exact (itc_0 (Or.inl (by assumption))).symm
  | with_reducible exact (itc_0 (Or.inr (by assumption))).symm
  | with_reducible exact yc_1 (by assumption) (by assumption) (Or.inl (by assumption)) (by assumption)
  | with_reducible exact yc_1 (by assumption) (by assumption) (Or.inr (by assumption)) (by assumption)
  | with_reducible exact yj_1 (by assumption) (by assumption) (Or.inl (by assumption))
  | with_reducible exact yj_1 (by assumption) (by assumption) (Or.inr (by assumption))
  | with_reducible exact yc_2 hln9 (by assumption) (by assumption) (by assumption) (by assumption) (by assumption) (by assumption) (by assumption) (by assumption) (by assumption) (by assumption)
  | with_reducible exact yj_2 (by assumption) (by assumption) (by assumption) (by assumption) (by assumption) (by assumption) (by assumption) (by assumption) (by assumption)
  | with_reducible exact yc_3 hln9 (by assumption) (by assumption) (by assumption) (by assumption) (by assumption) (by assumption) (by assumption) (by assumption) (by assumption) (by first | exact Or.inl (np_1 (by assumption)) | exact Or.inl (np_2 (by assumption) (by assumption) (by assumption) (by assumption)) | exact Or.inr (np_2 (by assumption) (by assumption) (by assumption) (by assumption))) (by assumption)
  | with_reducible exact yj_3 (by assumption) (by assumption) (by assumption) (by assumption) (by assumption) (by assumption) (by first | exact Or.inl (np_1 (by assumption)) | exact Or.inl (np_2 (by assumption) (by assumption) (by assumption) (by assumption)) | exact Or.inr (np_2 (by assumption) (by assumption) (by assumption) (by assumption)))
  | with_reducible exact yc_4 hln9 (by assumption) (by assumption) (by assumption) (by assumption) (by assumption) (by assumption) (by assumption) (by assumption) (by assumption) ((plc_i64 (by assumption) (by assumption) (by assumption)).mp (by assumption)) ((plc_i64 (by assumption) (by assumption) (by assumption)).mp (by assumption)) (by assumption)
  | with_reducible exact yj_4 hln9 (by assumption) (by assumption) (by assumption) (by assumption) (by assumption) (by assumption) (by assumption) (by assumption) (by assumption) ((plc_i64 (by assumption) (by assumption) (by assumption)).mp (by assumption)) ((plc_i64 (by assumption) (by assumption) (by assumption)).mp (by assumption)) (by omega) (by omega) haf_m haf_0 haf_1
  | with_reducible exact (ar_copy_0 (Or.inl (by assumption))).symm
  | with_reducible exact (ar_copy_0 (Or.inr (by assumption))).symm
  | (subst_vars; with_reducible exact (am_copy_1 (by assumption) (by assumption) (by grind)).symm)
  | (subst_vars; with_reducible exact (am_copy_2 hln9 (by assumption) (by assumption) (by assumption) (by assumption) (by assumption) (by assumption) (by assumption)).symm)
  | (refine Eq.trans (by assumption) (am_copy_3 hln9 (by assumption) (by assumption) (by assumption) (by assumption) (by assumption) (by assumption) (by grind) ?_).symm; first | exact Or.inl (fun z => z.2.1 (by assumption)) | exact Or.inl (fun z => (plc_i64 (by assumption) (by assumption) (by assumption)).mpr z (by assumption)) | exact Or.inr (fun z => (plc_i64 (by assumption) (by assumption) (by assumption)).mpr z (by assumption)))
  | (refine Eq.trans (by assumption) (am_copy_4 hln9 (by assumption) (by assumption) (by assumption) (by assumption) (by assumption) (by assumption) (by grind) ((plc_i64 (by assumption) (by assumption) (by assumption)).mp (by assumption)) ((plc_i64 (by assumption) (by assumption) (by assumption)).mp (by assumption))).symm)
theorem lf_X8_copy_23 {ms : Int32} {fn_ : Nat → Int32} {fz : Nat → Int32} {fi_ : Nat → Int32} {j_1 : Nat} {j_5 : Nat} {q_9 : Nat} {q_13 : Nat} {v_17 : Int32} {v_18 : Int32} {v_23 : Int64} {pa_27 : Nat} {pb_27 : Nat} {v_30 : Int64} {pa_34 : Nat} {pb_34 : Nat} {w_42 : Nat → Int32} {w_63 : Nat → Int32} {msn_78 : Int32} {r_78 : Int32} (hsz9 : ∀ j : Nat, j < 8 → fz j = -1 ∨ ∃ q : Nat, q ≤ 40 ∧ fz j = nI q) (hln9 : ∀ j : Nat, j < 8 → ¬ fz j = -1 → ¬ fn_ j = -1) (hj_1 : j_1 < 8) (hj_5 : j_5 < 8) (hs_9 : fz j_1 = nI q_9) (hq_9 : q_9 ≤ 40) (hs_13 : fz j_5 = nI q_13) (hq_13 : q_13 ≤ 40) (e_17 : v_17 = fn_ j_1) (e_18 : v_18 = fn_ j_5) (c_19 : v_17 = v_18) (c_20 : ¬ ((nI pb_27) < 0)) (e_23 : v_23 = (((nI q_9)).toInt64 - ((nI pb_27)).toInt64)) (f_24_1_0 : (¬ (((nI pa_27)).toInt64 < 0 ∨ v_23 < ((nI pa_27)).toInt64))) (hab_27 : pa_27 + pb_27 ≤ 40) (e_30 : v_30 = (((nI q_13)).toInt64 - ((nI pb_27)).toInt64)) (f_31_1_0 : (¬ (((nI pa_34)).toInt64 < 0 ∨ v_30 < ((nI pa_34)).toInt64))) (hab_34 : pa_34 + pb_34 ≤ 40) (eb_34 : pb_27 = pb_34) (haf_m : (∀ j : Nat, j < pb_27 → w_42 j = fi_ ((40 * j_1 + pa_27) + j))) (haf_0 : (∀ j : Nat, j < pb_27 → w_63 ((40 * j_5 + pa_34) + j) = w_42 j)) (haf_1 : (∀ j : Nat, j < (40 * j_5 + pa_34) ∨ (40 * j_5 + pa_34) + pb_27 ≤ j → w_63 j = fi_ j)) (hF_78_0 : (msn_78 : Int32) = 0) (h_78 : r_78 = (nI pb_27)) : msn_78 = f_copy (mbl fn_ fz) (mbn fz) (nI j_1) (nI pa_27) (nI j_5) (nI pa_34) (nI pb_27) ms := by
  first
  | with_reducible exact (fc_0 (Or.inl (by assumption))).symm
  | with_reducible exact (fc_0 (Or.inr (by assumption))).symm
  | with_reducible exact (itc_0 (Or.inl (by assumption))).symm
  | with_reducible exact (itc_0 (Or.inr (by assumption))).symm
  | with_reducible exact yc_1 (by assumption) (by assumption) (Or.inl (by assumption)) (by assumption)
  | with_reducible exact yc_1 (by assumption) (by assumption) (Or.inr (by assumption)) (by assumption)
  | with_reducible exact yj_1 (by assumption) (by assumption) (Or.inl (by assumption))
  | with_reducible exact yj_1 (by assumption) (by assumption) (Or.inr (by assumption))
  | with_reducible exact yc_2 hln9 (by assumption) (by assumption) (by assumption) (by assumption) (by assumption) (by assumption) (by assumption) (by assumption) (by assumption) (by assumption)
  | with_reducible exact yj_2 (by assumption) (by assumption) (by assumption) (by assumption) (by assumption) (by assumption) (by assumption) (by assumption) (by assumption)
  | with_reducible exact yc_3 hln9 (by assumption) (by assumption) (by assumption) (by assumption) (by assumption) (by assumption) (by assumption) (by assumption) (by assumption) (by first | exact Or.inl (np_1 (by assumption)) | exact Or.inl (np_2 (by assumption) (by assumption) (by assumption) (by assumption)) | exact Or.inr (np_2 (by assumption) (by assumption) (by assumption) (by assumption))) (by assumption)
  | with_reducible exact yj_3 (by assumption) (by assumption) (by assumption) (by assumption) (by assumption) (by assumption) (by first | exact Or.inl (np_1 (by assumption)) | exact Or.inl (np_2 (by assumption) (by assumption) (by assumption) (by assumption)) | exact Or.inr (np_2 (by assumption) (by assumption) (by assumption) (by assumption)))
  | with_reducible exact yc_4 hln9 (by assumption) (by assumption) (by assumption) (by assumption) (by assumption) (by assumption) (by assumption) (by assumption) (by assumption) ((plc_i64 (by assumption) (by assumption) (by assumption)).mp (by assumption)) ((plc_i64 (by assumption) (by assumption) (by assumption)).mp (by assumption)) (by assumption)
  | with_reducible exact yj_4 hln9 (by assumption) (by assumption) (by assumption) (by assumption) (by assumption) (by assumption) (by assumption) (by assumption) (by assumption) ((plc_i64 (by assumption) (by assumption) (by assumption)).mp (by assumption)) ((plc_i64 (by assumption) (by assumption) (by assumption)).mp (by assumption)) (by omega) (by omega) haf_m haf_0 haf_1
  | with_reducible exact (ar_copy_0 (Or.inl (by assumption))).symm
  | with_reducible exact (ar_copy_0 (Or.inr (by assumption))).symm
  | (subst_vars; with_reducible exact (am_copy_1 (by assumption) (by assumption) (by grind)).symm)
  | (subst_vars; with_reducible exact (am_copy_2 hln9 (by assumption) (by assumption) (by assumption) (by assumption) (by assumption) (by assumption) (by assumption)).symm)
  | (refine Eq.trans (by assumption) (am_copy_3 hln9 (by assumption) (by assumption) (by assumption) (by assumption) (by assumption) (by assumption) (by grind) ?_).symm; first | exact Or.inl (fun z => z.2.1 (by assumption)) | exact Or.inl (fun z => (plc_i64 (by assumption) (by assumption) (by assumption)).mpr z (by assumption)) | exact Or.inr (fun z => (plc_i64 (by assumption) (by assumption) (by assumption)).mpr z (by assumption)))
  | (refine Eq.trans (by assumption) (am_copy_4 hln9 (by assumption) (by assumption) (by assumption) (by assumption) (by assumption) (by assumption) (by grind) ((plc_i64 (by assumption) (by assumption) (by assumption)).mp (by assumption)) ((plc_i64 (by assumption) (by assumption) (by assumption)).mp (by assumption))).symm)
theorem lf_X8_copy_24 {fn_ : Nat → Int32} {fz : Nat → Int32} {fi_ : Nat → Int32} {j_1 : Nat} {j_5 : Nat} {q_9 : Nat} {q_13 : Nat} {v_17 : Int32} {v_18 : Int32} {v_23 : Int64} {pa_27 : Nat} {pb_27 : Nat} {v_30 : Int64} {pa_34 : Nat} {pb_34 : Nat} {w_42 : Nat → Int32} {w_63 : Nat → Int32} {msn_78 : Int32} {r_78 : Int32} (hsz9 : ∀ j : Nat, j < 8 → fz j = -1 ∨ ∃ q : Nat, q ≤ 40 ∧ fz j = nI q) (hln9 : ∀ j : Nat, j < 8 → ¬ fz j = -1 → ¬ fn_ j = -1) (hj_1 : j_1 < 8) (hj_5 : j_5 < 8) (hs_9 : fz j_1 = nI q_9) (hq_9 : q_9 ≤ 40) (hs_13 : fz j_5 = nI q_13) (hq_13 : q_13 ≤ 40) (e_17 : v_17 = fn_ j_1) (e_18 : v_18 = fn_ j_5) (c_19 : v_17 = v_18) (c_20 : ¬ ((nI pb_27) < 0)) (e_23 : v_23 = (((nI q_9)).toInt64 - ((nI pb_27)).toInt64)) (f_24_1_0 : (¬ (((nI pa_27)).toInt64 < 0 ∨ v_23 < ((nI pa_27)).toInt64))) (hab_27 : pa_27 + pb_27 ≤ 40) (e_30 : v_30 = (((nI q_13)).toInt64 - ((nI pb_27)).toInt64)) (f_31_1_0 : (¬ (((nI pa_34)).toInt64 < 0 ∨ v_30 < ((nI pa_34)).toInt64))) (hab_34 : pa_34 + pb_34 ≤ 40) (eb_34 : pb_27 = pb_34) (haf_m : (∀ j : Nat, j < pb_27 → w_42 j = fi_ ((40 * j_1 + pa_27) + j))) (haf_0 : (∀ j : Nat, j < pb_27 → w_63 ((40 * j_5 + pa_34) + j) = w_42 j)) (haf_1 : (∀ j : Nat, j < (40 * j_5 + pa_34) ∨ (40 * j_5 + pa_34) + pb_27 ≤ j → w_63 j = fi_ j)) (hF_78_0 : (msn_78 : Int32) = 0) (h_78 : r_78 = (nI pb_27)) : r_78 = (ar_copy (mbl fn_ fz) (mbn fz) (nI j_1) (nI pa_27) (nI j_5) (nI pa_34) (nI pb_27)) := by
  first
  | with_reducible exact (fc_0 (Or.inl (by assumption))).symm
  | with_reducible exact (fc_0 (Or.inr (by assumption))).symm
  | with_reducible exact (itc_0 (Or.inl (by assumption))).symm
  | with_reducible exact (itc_0 (Or.inr (by assumption))).symm
  | with_reducible exact yc_1 (by assumption) (by assumption) (Or.inl (by assumption)) (by assumption)
  | with_reducible exact yc_1 (by assumption) (by assumption) (Or.inr (by assumption)) (by assumption)
  | with_reducible exact yj_1 (by assumption) (by assumption) (Or.inl (by assumption))
  | with_reducible exact yj_1 (by assumption) (by assumption) (Or.inr (by assumption))
  | with_reducible exact yc_2 hln9 (by assumption) (by assumption) (by assumption) (by assumption) (by assumption) (by assumption) (by assumption) (by assumption) (by assumption) (by assumption)
  | with_reducible exact yj_2 (by assumption) (by assumption) (by assumption) (by assumption) (by assumption) (by assumption) (by assumption) (by assumption) (by assumption)
  | with_reducible exact yc_3 hln9 (by assumption) (by assumption) (by assumption) (by assumption) (by assumption) (by assumption) (by assumption) (by assumption) (by assumption) (by first | exact Or.inl (np_1 (by assumption)) | exact Or.inl (np_2 (by assumption) (by assumption) (by assumption) (by assumption)) | exact Or.inr (np_2 (by assumption) (by assumption) (by assumption) (by assumption))) (by assumption)
  | with_reducible exact yj_3 (by assumption) (by assumption) (by assumption) (by assumption) (by assumption) (by assumption) (by first | exact Or.inl (np_1 (by assumption)) | exact Or.inl (np_2 (by assumption) (by assumption) (by assumption) (by assumption)) | exact Or.inr (np_2 (by assumption) (by assumption) (by assumption) (by assumption)))
  | with_reducible exact yc_4 hln9 (by assumption) (by assumption) (by assumption) (by assumption) (by assumption) (by assumption) (by assumption) (by assumption) (by assumption) ((plc_i64 (by assumption) (by assumption) (by assumption)).mp (by assumption)) ((plc_i64 (by assumption) (by assumption) (by assumption)).mp (by assumption)) (by assumption)
  | with_reducible exact yj_4 hln9 (by assumption) (by assumption) (by assumption) (by assumption) (by assumption) (by assumption) (by assumption) (by assumption) (by assumption) ((plc_i64 (by assumption) (by assumption) (by assumption)).mp (by assumption)) ((plc_i64 (by assumption) (by assumption) (by assumption)).mp (by assumption)) (by omega) (by omega) haf_m haf_0 haf_1
  | with_reducible exact (ar_copy_0 (Or.inl (by assumption))).symm
  | with_reducible exact (ar_copy_0 (Or.inr (by assumption))).symm
  | (subst_vars; with_reducible exact (am_copy_1 (by assumption) (by assumption) (by grind)).symm)
  | (subst_vars; with_reducible exact (am_copy_2 hln9 (by assumption) (by assumption) (by assumption) (by assumption) (by assumption) (by assumption) (by assumption)).symm)
  | (refine Eq.trans (by assumption) (am_copy_3 hln9 (by assumption) (by assumption) (by assumption) (by assumption) (by assumption) (by assumption) (by grind) ?_).symm; first | exact Or.inl (fun z => z.2.1 (by assumption)) | exact Or.inl (fun z => (plc_i64 (by assumption) (by assumption) (by assumption)).mpr z (by assumption)) | exact Or.inr (fun z => (plc_i64 (by assumption) (by assumption) (by assumption)).mpr z (by assumption)))
  | (refine Eq.trans (by assumption) (am_copy_4 hln9 (by assumption) (by assumption) (by assumption) (by assumption) (by assumption) (by assumption) (by grind) ((plc_i64 (by assumption) (by assumption) (by assumption)).mp (by assumption)) ((plc_i64 (by assumption) (by assumption) (by assumption)).mp (by assumption))).symm)
theorem lf_X8_copy_25 {fn_ : Nat → Int32} {fz : Nat → Int32} {fi_ : Nat → Int32} {a1 : Int32} {a3 : Int32} {a4 : Int32} {j_1 : Nat} {j_5 : Nat} {q_9 : Nat} {q_13 : Nat} {v_17 : Int32} {v_18 : Int32} {msn_79 : Int32} {r_79 : Int32} (hsz9 : ∀ j : Nat, j < 8 → fz j = -1 ∨ ∃ q : Nat, q ≤ 40 ∧ fz j = nI q) (hln9 : ∀ j : Nat, j < 8 → ¬ fz j = -1 → ¬ fn_ j = -1) (hj_1 : j_1 < 8) (hj_5 : j_5 < 8) (hs_9 : fz j_1 = nI q_9) (hq_9 : q_9 ≤ 40) (hs_13 : fz j_5 = nI q_13) (hq_13 : q_13 ≤ 40) (e_17 : v_17 = fn_ j_1) (e_18 : v_18 = fn_ j_5) (c_19 : ¬ (v_17 = v_18)) (hF_79_0 : (msn_79 : Int32) = 5) (h_79 : r_79 = (-1000010 - 5)) : itM fi_ = n_itc (mbl fn_ fz) (mbn fz) (itM fi_) (nI j_1) a1 (nI j_5) a3 a4 := by
  first
  | with_reducible exact (fc_0 (Or.inl (by assumption))).symm
  | with_reducible exact (fc_0 (Or.inr (by assumption))).symm
  | with_reducible exact (itc_0 (Or.inl (by assumption))).symm
  | with_reducible exact (itc_0 (Or.inr (by assumption))).symm
  | with_reducible exact yc_1 (by assumption) (by assumption) (Or.inl (by assumption)) (by assumption)
  | with_reducible exact yc_1 (by assumption) (by assumption) (Or.inr (by assumption)) (by assumption)
  | with_reducible exact yj_1 (by assumption) (by assumption) (Or.inl (by assumption))
  | with_reducible exact yj_1 (by assumption) (by assumption) (Or.inr (by assumption))
  | with_reducible exact yc_2 hln9 (by assumption) (by assumption) (by assumption) (by assumption) (by assumption) (by assumption) (by assumption) (by assumption) (by assumption) (by assumption)
  | with_reducible exact yj_2 (by assumption) (by assumption) (by assumption) (by assumption) (by assumption) (by assumption) (by assumption) (by assumption) (by assumption)
  | with_reducible exact yc_3 hln9 (by assumption) (by assumption) (by assumption) (by assumption) (by assumption) (by assumption) (by assumption) (by assumption) (by assumption) (by first | exact Or.inl (np_1 (by assumption)) | exact Or.inl (np_2 (by assumption) (by assumption) (by assumption) (by assumption)) | exact Or.inr (np_2 (by assumption) (by assumption) (by assumption) (by assumption))) (by assumption)
  | with_reducible exact yj_3 (by assumption) (by assumption) (by assumption) (by assumption) (by assumption) (by assumption) (by first | exact Or.inl (np_1 (by assumption)) | exact Or.inl (np_2 (by assumption) (by assumption) (by assumption) (by assumption)) | exact Or.inr (np_2 (by assumption) (by assumption) (by assumption) (by assumption)))
  | with_reducible exact yc_4 hln9 (by assumption) (by assumption) (by assumption) (by assumption) (by assumption) (by assumption) (by assumption) (by assumption) (by assumption) ((plc_i64 (by assumption) (by assumption) (by assumption)).mp (by assumption)) ((plc_i64 (by assumption) (by assumption) (by assumption)).mp (by assumption)) (by assumption)
  | with_reducible exact (ar_copy_0 (Or.inl (by assumption))).symm
  | with_reducible exact (ar_copy_0 (Or.inr (by assumption))).symm
  | (subst_vars; with_reducible exact (am_copy_1 (by assumption) (by assumption) (by grind)).symm)
  | (subst_vars; with_reducible exact (am_copy_2 hln9 (by assumption) (by assumption) (by assumption) (by assumption) (by assumption) (by assumption) (by assumption)).symm)
  | (refine Eq.trans (by assumption) (am_copy_3 hln9 (by assumption) (by assumption) (by assumption) (by assumption) (by assumption) (by assumption) (by grind) ?_).symm; first | exact Or.inl (fun z => z.2.1 (by assumption)) | exact Or.inl (fun z => (plc_i64 (by assumption) (by assumption) (by assumption)).mpr z (by assumption)) | exact Or.inr (fun z => (plc_i64 (by assumption) (by assumption) (by assumption)).mpr z (by assumption)))
  | (refine Eq.trans (by assumption) (am_copy_4 hln9 (by assumption) (by assumption) (by assumption) (by assumption) (by assumption) (by assumption) (by grind) ((plc_i64 (by assumption) (by assumption) (by assumption)).mp (by assumption)) ((plc_i64 (by assumption) (by assumption) (by assumption)).mp (by assumption))).symm)
theorem lf_X8_copy_26 {ms : Int32} {fn_ : Nat → Int32} {fz : Nat → Int32} {a1 : Int32} {a3 : Int32} {a4 : Int32} {j_1 : Nat} {j_5 : Nat} {q_9 : Nat} {q_13 : Nat} {v_17 : Int32} {v_18 : Int32} {msn_79 : Int32} {r_79 : Int32} (hsz9 : ∀ j : Nat, j < 8 → fz j = -1 ∨ ∃ q : Nat, q ≤ 40 ∧ fz j = nI q) (hln9 : ∀ j : Nat, j < 8 → ¬ fz j = -1 → ¬ fn_ j = -1) (hj_1 : j_1 < 8) (hj_5 : j_5 < 8) (hs_9 : fz j_1 = nI q_9) (hq_9 : q_9 ≤ 40) (hs_13 : fz j_5 = nI q_13) (hq_13 : q_13 ≤ 40) (e_17 : v_17 = fn_ j_1) (e_18 : v_18 = fn_ j_5) (c_19 : ¬ (v_17 = v_18)) (hF_79_0 : (msn_79 : Int32) = 5) (h_79 : r_79 = (-1000010 - 5)) : msn_79 = f_copy (mbl fn_ fz) (mbn fz) (nI j_1) a1 (nI j_5) a3 a4 ms := by
  first
  | with_reducible exact (fc_0 (Or.inl (by assumption))).symm
  | with_reducible exact (fc_0 (Or.inr (by assumption))).symm
  | with_reducible exact (itc_0 (Or.inl (by assumption))).symm
  | with_reducible exact (itc_0 (Or.inr (by assumption))).symm
  | with_reducible exact yc_1 (by assumption) (by assumption) (Or.inl (by assumption)) (by assumption)
  | with_reducible exact yc_1 (by assumption) (by assumption) (Or.inr (by assumption)) (by assumption)
  | with_reducible exact yj_1 (by assumption) (by assumption) (Or.inl (by assumption))
  | with_reducible exact yj_1 (by assumption) (by assumption) (Or.inr (by assumption))
  | with_reducible exact yc_2 hln9 (by assumption) (by assumption) (by assumption) (by assumption) (by assumption) (by assumption) (by assumption) (by assumption) (by assumption) (by assumption)
  | with_reducible exact yj_2 (by assumption) (by assumption) (by assumption) (by assumption) (by assumption) (by assumption) (by assumption) (by assumption) (by assumption)
  | with_reducible exact yc_3 hln9 (by assumption) (by assumption) (by assumption) (by assumption) (by assumption) (by assumption) (by assumption) (by assumption) (by assumption) (by first | exact Or.inl (np_1 (by assumption)) | exact Or.inl (np_2 (by assumption) (by assumption) (by assumption) (by assumption)) | exact Or.inr (np_2 (by assumption) (by assumption) (by assumption) (by assumption))) (by assumption)
  | with_reducible exact yj_3 (by assumption) (by assumption) (by assumption) (by assumption) (by assumption) (by assumption) (by first | exact Or.inl (np_1 (by assumption)) | exact Or.inl (np_2 (by assumption) (by assumption) (by assumption) (by assumption)) | exact Or.inr (np_2 (by assumption) (by assumption) (by assumption) (by assumption)))
  | with_reducible exact yc_4 hln9 (by assumption) (by assumption) (by assumption) (by assumption) (by assumption) (by assumption) (by assumption) (by assumption) (by assumption) ((plc_i64 (by assumption) (by assumption) (by assumption)).mp (by assumption)) ((plc_i64 (by assumption) (by assumption) (by assumption)).mp (by assumption)) (by assumption)
  | with_reducible exact (ar_copy_0 (Or.inl (by assumption))).symm
  | with_reducible exact (ar_copy_0 (Or.inr (by assumption))).symm
  | (subst_vars; with_reducible exact (am_copy_1 (by assumption) (by assumption) (by grind)).symm)
  | (subst_vars; with_reducible exact (am_copy_2 hln9 (by assumption) (by assumption) (by assumption) (by assumption) (by assumption) (by assumption) (by assumption)).symm)
  | (refine Eq.trans (by assumption) (am_copy_3 hln9 (by assumption) (by assumption) (by assumption) (by assumption) (by assumption) (by assumption) (by grind) ?_).symm; first | exact Or.inl (fun z => z.2.1 (by assumption)) | exact Or.inl (fun z => (plc_i64 (by assumption) (by assumption) (by assumption)).mpr z (by assumption)) | exact Or.inr (fun z => (plc_i64 (by assumption) (by assumption) (by assumption)).mpr z (by assumption)))
  | (refine Eq.trans (by assumption) (am_copy_4 hln9 (by assumption) (by assumption) (by assumption) (by assumption) (by assumption) (by assumption) (by grind) ((plc_i64 (by assumption) (by assumption) (by assumption)).mp (by assumption)) ((plc_i64 (by assumption) (by assumption) (by assumption)).mp (by assumption))).symm)
theorem lf_X8_copy_27 {fn_ : Nat → Int32} {fz : Nat → Int32} {a1 : Int32} {a3 : Int32} {a4 : Int32} {j_1 : Nat} {j_5 : Nat} {q_9 : Nat} {q_13 : Nat} {v_17 : Int32} {v_18 : Int32} {msn_79 : Int32} {r_79 : Int32} (hsz9 : ∀ j : Nat, j < 8 → fz j = -1 ∨ ∃ q : Nat, q ≤ 40 ∧ fz j = nI q) (hln9 : ∀ j : Nat, j < 8 → ¬ fz j = -1 → ¬ fn_ j = -1) (hj_1 : j_1 < 8) (hj_5 : j_5 < 8) (hs_9 : fz j_1 = nI q_9) (hq_9 : q_9 ≤ 40) (hs_13 : fz j_5 = nI q_13) (hq_13 : q_13 ≤ 40) (e_17 : v_17 = fn_ j_1) (e_18 : v_18 = fn_ j_5) (c_19 : ¬ (v_17 = v_18)) (hF_79_0 : (msn_79 : Int32) = 5) (h_79 : r_79 = (-1000010 - 5)) : r_79 = (ar_copy (mbl fn_ fz) (mbn fz) (nI j_1) a1 (nI j_5) a3 a4) := by
  first
  | with_reducible exact (fc_0 (Or.inl (by assumption))).symm
  | with_reducible exact (fc_0 (Or.inr (by assumption))).symm
  | with_reducible exact (itc_0 (Or.inl (by assumption))).symm
  | with_reducible exact (itc_0 (Or.inr (by assumption))).symm
  | with_reducible exact yc_1 (by assumption) (by assumption) (Or.inl (by assumption)) (by assumption)
  | with_reducible exact yc_1 (by assumption) (by assumption) (Or.inr (by assumption)) (by assumption)
  | with_reducible exact yj_1 (by assumption) (by assumption) (Or.inl (by assumption))
  | with_reducible exact yj_1 (by assumption) (by assumption) (Or.inr (by assumption))
  | with_reducible exact yc_2 hln9 (by assumption) (by assumption) (by assumption) (by assumption) (by assumption) (by assumption) (by assumption) (by assumption) (by assumption) (by assumption)
  | with_reducible exact yj_2 (by assumption) (by assumption) (by assumption) (by assumption) (by assumption) (by assumption) (by assumption) (by assumption) (by assumption)
  | with_reducible exact yc_3 hln9 (by assumption) (by assumption) (by assumption) (by assumption) (by assumption) (by assumption) (by assumption) (by assumption) (by assumption) (by first | exact Or.inl (np_1 (by assumption)) | exact Or.inl (np_2 (by assumption) (by assumption) (by assumption) (by assumption)) | exact Or.inr (np_2 (by assumption) (by assumption) (by assumption) (by assumption))) (by assumption)
  | with_reducible exact yj_3 (by assumption) (by assumption) (by assumption) (by assumption) (by assumption) (by assumption) (by first | exact Or.inl (np_1 (by assumption)) | exact Or.inl (np_2 (by assumption) (by assumption) (by assumption) (by assumption)) | exact Or.inr (np_2 (by assumption) (by assumption) (by assumption) (by assumption)))
  | with_reducible exact yc_4 hln9 (by assumption) (by assumption) (by assumption) (by assumption) (by assumption) (by assumption) (by assumption) (by assumption) (by assumption) ((plc_i64 (by assumption) (by assumption) (by assumption)).mp (by assumption)) ((plc_i64 (by assumption) (by assumption) (by assumption)).mp (by assumption)) (by assumption)
  | with_reducible exact (ar_copy_0 (Or.inl (by assumption))).symm
  | with_reducible exact (ar_copy_0 (Or.inr (by assumption))).symm
  | (subst_vars; with_reducible exact (am_copy_1 (by assumption) (by assumption) (by grind)).symm)
  | (subst_vars; with_reducible exact (am_copy_2 hln9 (by assumption) (by assumption) (by assumption) (by assumption) (by assumption) (by assumption) (by assumption)).symm)
  | (refine Eq.trans (by assumption) (am_copy_3 hln9 (by assumption) (by assumption) (by assumption) (by assumption) (by assumption) (by assumption) (by grind) ?_).symm; first | exact Or.inl (fun z => z.2.1 (by assumption)) | exact Or.inl (fun z => (plc_i64 (by assumption) (by assumption) (by assumption)).mpr z (by assumption)) | exact Or.inr (fun z => (plc_i64 (by assumption) (by assumption) (by assumption)).mpr z (by assumption)))
  | (refine Eq.trans (by assumption) (am_copy_4 hln9 (by assumption) (by assumption) (by assumption) (by assumption) (by assumption) (by assumption) (by grind) ((plc_i64 (by assumption) (by assumption) (by assumption)).mp (by assumption)) ((plc_i64 (by assumption) (by assumption) (by assumption)).mp (by assumption))).symm)
set_option maxHeartbeats 4000000 in
set_option maxRecDepth 100000 in
theorem r_X8_copy (l : Launch) (dC : Nat → ClassId) (dI : Nat → Nat → Nat) (cI cZ cL cJ : ClassId) (sz : Nat) (mo : Nat) (m_la : Nat) (m_sz : Nat) (m_it : Nat) (m_st : Nat) (m_mv : Nat) (m_tp : Nat) (m_rd : Nat) (m_ac : Nat) (m_as : Nat) (m_wo : Nat) (m_ik : Nat) (m_ke : Nat) (m_tr : Nat) (ms : Int32) (mt : Int32) (ml : Int32) (mk : Int32) (mv : Int32) (mb : Int32) (mw : Int32) (mz : Nat) (mp : Nat) (ma : Nat) (mx : Nat) (fn_ : Nat → Int32) (fz : Nat → Int32) (fi_ : Nat → Int32) (fm : Nat → Int32) (a0 : Int32) (a1 : Int32) (a2 : Int32) (a3 : Int32) (a4 : Int32) (hsz9 : ∀ j : Nat, j < 8 → fz j = -1 ∨ ∃ q : Nat, q ≤ 40 ∧ fz j = nI q) (hln9 : ∀ j : Nat, j < 8 → ¬ fz j = -1 → ¬ fn_ j = -1) : Met l yX8_copy wsX8_copy ({ frames := 2, cells := 0, slots := 0, locals := 45 }) (va_Pc [.ref mo, .int a0, .int a1, .int a2, .int a3, .int a4] (fun U => U.heap.size = sz ∧ va_P (dC, dI) vwCl [(xo_8_rrriirrriiiiiiirrirrrrri mo m_la m_sz m_it ms mt m_st m_mv m_tp (nI mz) ml (nI mp) mk mv mb mw m_rd m_ac (nI ma) m_as m_wo m_ik m_ke m_tr (nI mx)), (xI m_la cI 8 fn_), (xI m_sz cI 8 fz), (xI m_it cI 320 fi_), (xI m_mv cI 40 fm)] U.heap ∧ va_K (dC, dI) vwCl [(cI, .int), (cZ, .boolean), (cL, .object RX3), (cJ, .array .int)] U ∧ va_D (fun _ => True) [(xo_8_rrriirrriiiiiiirrirrrrri mo m_la m_sz m_it ms mt m_st m_mv m_tp (nI mz) ml (nI mp) mk mv mb mw m_rd m_ac (nI ma) m_as m_wo m_ik m_ke m_tr (nI mx)), (xI m_la cI 8 fn_), (xI m_sz cI 8 fz), (xI m_it cI 320 fi_), (xI m_mv cI 40 fm)])) (va_Qi (fun r (_ : Unit) => r = (ar_copy (mbl fn_ fz) (mbn fz) a0 a1 a2 a3 a4)) (fun (_ : Unit) t => ∃ (fin_ : Nat → Int32) (fmn : Nat → Int32) (msn : Int32), va_P (dC, dI) vwCl [(xo_8_rrriirrriiiiiiirrirrrrri mo m_la m_sz m_it msn mt m_st m_mv m_tp (nI mz) ml (nI mp) mk mv mb mw m_rd m_ac (nI ma) m_as m_wo m_ik m_ke m_tr (nI mx)), (xI m_la cI 8 fn_), (xI m_sz cI 8 fz), (xI m_it cI 320 fin_), (xI m_mv cI 40 fmn)] t.heap ∧ va_D (va_A [(xo_8_rrriirrriiiiiiirrirrrrri mo m_la m_sz m_it ms mt m_st m_mv m_tp (nI mz) ml (nI mp) mk mv mb mw m_rd m_ac (nI ma) m_as m_wo m_ik m_ke m_tr (nI mx)), (xI m_la cI 8 fn_), (xI m_sz cI 8 fz), (xI m_it cI 320 fi_), (xI m_mv cI 40 fm)] sz) [(xo_8_rrriirrriiiiiiirrirrrrri mo m_la m_sz m_it msn mt m_st m_mv m_tp (nI mz) ml (nI mp) mk mv mb mw m_rd m_ac (nI ma) m_as m_wo m_ik m_ke m_tr (nI mx)), (xI m_la cI 8 fn_), (xI m_sz cI 8 fz), (xI m_it cI 320 fin_), (xI m_mv cI 40 fmn)] ∧ itM fin_ = n_itc (mbl fn_ fz) (mbn fz) (itM fi_) a0 a1 a2 a3 a4 ∧ msn = f_copy (mbl fn_ fz) (mbn fz) a0 a1 a2 a3 a4 ms) (va_A [(xo_8_rrriirrriiiiiiirrirrrrri mo m_la m_sz m_it ms mt m_st m_mv m_tp (nI mz) ml (nI mp) mk mv mb mw m_rd m_ac (nI ma) m_as m_wo m_ik m_ke m_tr (nI mx)), (xI m_la cI 8 fn_), (xI m_sz cI 8 fz), (xI m_it cI 320 fi_), (xI m_mv cI 40 fm)] sz)) 0 0 (va_A [(xo_8_rrriirrriiiiiiirrirrrrri mo m_la m_sz m_it ms mt m_st m_mv m_tp (nI mz) ml (nI mp) mk mv mb mw m_rd m_ac (nI ma) m_as m_wo m_ik m_ke m_tr (nI mx)), (xI m_la cI 8 fn_), (xI m_sz cI 8 fz), (xI m_it cI 320 fi_), (xI m_mv cI 40 fm)] sz) := by
  refine Met.ofW (cc := cX8_copy) (maxL := 7) (ret := (some .int)) (by decide) rfl ?_
  intro p e s m args below meth c s₁ B hml hv
  obtain ⟨rfl, hsz, hP, hK, hD0⟩ := hv
  have hx := B.exec
  have hb := B.bytes
  have hr := B.returns
  have hts := atoms_spec (ws := wsX8_copy) B.pre
  have hown : s.vm.findClass RX8 = some m.cls := findClass_of_methodNamed B.named
  have hlocks := B.notSynchronized
  subst hsz
  have hD := hD0.self (sz := s.heap.size)
  generalize hAe : va_A [(xo_8_rrriirrriiiiiiirrirrrrri mo m_la m_sz m_it ms mt m_st m_mv m_tp (nI mz) ml (nI mp) mk mv mb mw m_rd m_ac (nI ma) m_as m_wo m_ik m_ke m_tr (nI mx)), (xI m_la cI 8 fn_), (xI m_sz cI 8 fz), (xI m_it cI 320 fi_), (xI m_mv cI 40 fm)] s.heap.size = A at hD ⊢
  have hA : ∀ q : Nat, s.heap.size ≤ q → A q := fun q h => by rw [← hAe]; exact Or.inr h
  have hS : va_S A s.heap s.heap [] := va_S.rf
  have hP : va_P (dC, dI) vwCl [(xo_8_rrriirrriiiiiiirrirrrrri mo m_la m_sz m_it ms mt m_st m_mv m_tp (nI mz) ml (nI mp) mk mv mb mw m_rd m_ac (nI ma) m_as m_wo m_ik m_ke m_tr (nI mx)), (xI m_la cI 8 fn_), (xI m_sz cI 8 fz), (xI m_it cI 320 fi_), (xI m_mv cI 40 fm)] s.heap := hP
  have hl := lv_entry ([.ref mo, .int a0, .int a1, .int a2, .int a3, .int a4]) (n := 7) (Nat.le_of_ble_eq_true rfl)
  rw [lg_entry_eq]
  generalize (lg_sl ([.ref mo, .int a0, .int a1, .int a2, .int a3, .int a4]) ++ List.replicate (7 - (lg_sl ([.ref mo, .int a0, .int a1, .int a2, .int a3, .int a4])).length) Slot.unset).toArray = ls at hl ⊢
  have hl : lv_has ls 7 [(0, .ref mo), (1, .int a0), (2, .int a1), (3, .int a2), (4, .int a3), (5, .int a4)] := hl
  refine lv_iload_n hx hb dX8_copy_0 rfl (lv_at hl 1 rfl) ?_
  have hPc_1 := hP.sub (ws' := []) [] rfl
  refine vp_callSi (W.runS (As := [.int a0]) (rest := []) ⟨hx, hb, hml, hown, hts⟩ (r_X8_isRow l dC dI cI cZ cL cJ a0 ) (va_cwS 1 hts gX8_copy_X8_isRow rfl rfl rfl (by decide +kernel) ⟨Nat.le_of_ble_eq_true rfl, Nat.le_of_ble_eq_true rfl⟩) (psP hK hPc_1) rfl rfl hl.1 rfl (lv_room (Nat.le_of_ble_eq_true rfl)) dX8_copy_1 ⟨Nat.le_of_ble_eq_true rfl, Nat.le_of_ble_eq_true rfl⟩) (fun r_1 h_1 => ?_)
  rcases h_1 with ⟨h_1, f_1_0_0⟩ | ⟨h_1, f_1_1_0⟩
  · subst h_1
    refine lv_if_eq (tgt := 14) hx hb dX8_copy_4 (by decide) (fun _ => ?_) (fun c_ => absurd (by decide) c_)
    refine lv_ldc (own := RX8) (v := (-1000001)) hx hb hown (hts _ mx_X8_copy_1) dX8_copy_14 ?_
    have hX9 := cut2 (wc := [(xo_8_rrriirrriiiiiiirrirrrrri mo m_la m_sz m_it ms mt m_st m_mv m_tp (nI mz) ml (nI mp) mk mv mb mw m_rd m_ac (nI ma) m_as m_wo m_ik m_ke m_tr (nI mx)), (xI m_la cI 8 fn_), (xI m_sz cI 8 fz), (xI m_it cI 320 fi_), (xI m_mv cI 40 fm)]) hP hD [0, 1, 2, 3, 4] (by decide +kernel) rfl
    exact W.iret (v := (-1000001)) hx hb hr (fun t ht hW => ⟨⟨(-1000001), (), rfl, (lf_X8_copy_3 hsz9 hln9 f_1_0_0), ⟨fi_, fm, ms, va_Ht ht hX9.1, hX9.2, (lf_X8_copy_1 hsz9 hln9 f_1_0_0), (lf_X8_copy_2 hsz9 hln9 f_1_0_0)⟩⟩, hS.F ht⟩) hS.2.2 dX8_copy_16
  · subst h_1
    obtain ⟨j_1, hj_1, rfl⟩ := vp_in_of f_1_1_0 (by omega)
    refine lv_if_eq (tgt := 14) hx hb dX8_copy_4 (by decide) (fun c_ => absurd c_ (by decide)) (fun _ => ?_)
    refine lv_iload_n hx hb dX8_copy_7 rfl (lv_at hl 3 rfl) ?_
    have hPc_5 := hP.sub (ws' := []) [] rfl
    refine vp_callSi (W.runS (As := [.int a2]) (rest := []) ⟨hx, hb, hml, hown, hts⟩ (r_X8_isRow l dC dI cI cZ cL cJ a2 ) (va_cwS 1 hts gX8_copy_X8_isRow rfl rfl rfl (by decide +kernel) ⟨Nat.le_of_ble_eq_true rfl, Nat.le_of_ble_eq_true rfl⟩) (psP hK hPc_5) rfl rfl hl.1 rfl (lv_room (Nat.le_of_ble_eq_true rfl)) dX8_copy_8 ⟨Nat.le_of_ble_eq_true rfl, Nat.le_of_ble_eq_true rfl⟩) (fun r_5 h_5 => ?_)
    rcases h_5 with ⟨h_5, f_5_0_0⟩ | ⟨h_5, f_5_1_0⟩
    · subst h_5
      refine lv_if_ne (tgt := 17) hx hb dX8_copy_11 (by decide) (fun c_ => absurd (by decide) c_) (fun _ => ?_)
      refine lv_ldc (own := RX8) (v := (-1000001)) hx hb hown (hts _ mx_X8_copy_1) dX8_copy_14 ?_
      have hX9 := cut2 (wc := [(xo_8_rrriirrriiiiiiirrirrrrri mo m_la m_sz m_it ms mt m_st m_mv m_tp (nI mz) ml (nI mp) mk mv mb mw m_rd m_ac (nI ma) m_as m_wo m_ik m_ke m_tr (nI mx)), (xI m_la cI 8 fn_), (xI m_sz cI 8 fz), (xI m_it cI 320 fi_), (xI m_mv cI 40 fm)]) hP hD [0, 1, 2, 3, 4] (by decide +kernel) rfl
      exact W.iret (v := (-1000001)) hx hb hr (fun t ht hW => ⟨⟨(-1000001), (), rfl, (lf_X8_copy_6 hsz9 hln9 hj_1 f_5_0_0), ⟨fi_, fm, ms, va_Ht ht hX9.1, hX9.2, (lf_X8_copy_4 hsz9 hln9 hj_1 f_5_0_0), (lf_X8_copy_5 hsz9 hln9 hj_1 f_5_0_0)⟩⟩, hS.F ht⟩) hS.2.2 dX8_copy_16
    · subst h_5
      obtain ⟨j_5, hj_5, rfl⟩ := vp_in_of f_5_1_0 (by omega)
      refine lv_if_ne (tgt := 17) hx hb dX8_copy_11 (by decide) (fun _ => ?_) (fun c_ => absurd c_ (by decide))
      refine lv_aload_n hx hb dX8_copy_17 rfl (lv_at hl 0 rfl) ?_
      refine va_get (D := (dC, dI)) (ci := 8) (v := .ref m_sz) (C := RX8) (T := TX8) (N := 24) hx hb hts i_X8_copy_X8 hown hK hP 0 rfl rfl 1 (by decide) (hts _ mx_X8_copy_2) (fun _ h9 => h9) rfl dX8_copy_18 ?_
      refine lv_iload_n hx hb dX8_copy_21 rfl (lv_at hl 1 rfl) ?_
      refine va_iald hx hb hK hP 2 0 rfl rfl (vp_in_nI (by omega) (by omega)) dX8_copy_22 ?_
      refine lv_topi (fun v_9 e_9 => ?_)
      rw [nI_clamp (by omega)] at e_9
      rcases hsz9 j_1 (by omega) with hs_9 | ⟨q_9, hq_9, hs_9⟩
      · obtain rfl : v_9 = -1 := e_9.trans hs_9
        refine lv_if_lt (tgt := 35) hx hb dX8_copy_23 (by decide) (fun _ => ?_) (fun c_ => absurd (by decide) c_)
        refine lv_aload_n hx hb dX8_copy_35 rfl (lv_at hl 0 rfl) ?_
        refine lv_iconst (v := 1) hx hb dX8_copy_36 (by decide) ?_
        have hc_11 := cutW (wc := [(xo_8_rrriirrriiiiiiirrirrrrri mo m_la m_sz m_it ms mt m_st m_mv m_tp (nI mz) ml (nI mp) mk mv mb mw m_rd m_ac (nI ma) m_as m_wo m_ik m_ke m_tr (nI mx))]) hP hD hS hA [0] (by decide +kernel) rfl
        refine va_calli (va_runV (As := [.int 1]) (rest := []) ⟨hx, hb, hml, hown, hts⟩ (r_X8_find l dC dI cI cZ cL cJ s.heap.size mo m_la m_sz m_it m_st m_mv m_tp m_rd m_ac m_as m_wo m_ik m_ke m_tr ms mt ml mk mv mb mw mz mp ma mx 1 ) (cwV 1 hts gX8_copy_X8_find rfl rfl rfl (by decide +kernel) ⟨Nat.le_of_ble_eq_true rfl, Nat.le_of_ble_eq_true rfl⟩) (pvW 8 0 hK hP rfl rfl hc_11) rfl rfl hl.1 rfl (lv_room (Nat.le_of_ble_eq_true rfl)) dX8_copy_37 ⟨Nat.le_of_ble_eq_true rfl, Nat.le_of_ble_eq_true rfl⟩) hS (fun q _ h => hc_11.2.2 q h) hc_11.2.2 (fun r_11 u_11 t_11 H1 locs ht hvm h_11 hB hz1 hk1 hS => ?_)
        refine xl_1_3 hB (fun msn_11 hP1 hD1 hF_11_0 => ?_)
        clear hB
        rw [ht] at hP1
        obtain ⟨hP, hD⟩ := va_join (wr := [(xI m_la cI 8 fn_), (xI m_sz cI 8 fz), (xI m_it cI 320 fi_), (xI m_mv cI 40 fm)]) (w1 := [(xo_8_rrriirrriiiiiiirrirrrrri mo m_la m_sz m_it msn_11 mt m_st m_mv m_tp (nI mz) ml (nI mp) mk mv mb mw m_rd m_ac (nI ma) m_as m_wo m_ik m_ke m_tr (nI mx))]) hP hD [0] [1, 2, 3, 4] rfl rfl (by decide +kernel) (by decide +kernel) hk1 hc_11.2.2 hP1 hD1
        generalize H1 = H at hP hS ⊢
        have hP : va_P (dC, dI) vwCl [(xI m_la cI 8 fn_), (xI m_sz cI 8 fz), (xI m_it cI 320 fi_), (xI m_mv cI 40 fm), (xo_8_rrriirrriiiiiiirrirrrrri mo m_la m_sz m_it msn_11 mt m_st m_mv m_tp (nI mz) ml (nI mp) mk mv mb mw m_rd m_ac (nI ma) m_as m_wo m_ik m_ke m_tr (nI mx))] H := hP
        have hD := dto hP hD
        have hX9 := cut2 (wc := [(xo_8_rrriirrriiiiiiirrirrrrri mo m_la m_sz m_it msn_11 mt m_st m_mv m_tp (nI mz) ml (nI mp) mk mv mb mw m_rd m_ac (nI ma) m_as m_wo m_ik m_ke m_tr (nI mx)), (xI m_la cI 8 fn_), (xI m_sz cI 8 fz), (xI m_it cI 320 fi_), (xI m_mv cI 40 fm)]) hP hD [4, 0, 1, 2, 3] (by decide +kernel) rfl
        exact W.iret (v := r_11) hx hb hr (fun t ht hW => ⟨⟨r_11, (), rfl, (lf_X8_copy_9 hsz9 hln9 hj_1 hj_5 hs_9 hF_11_0 h_11), ⟨fi_, fm, msn_11, va_Ht ht hX9.1, hX9.2, (lf_X8_copy_7 hsz9 hln9 hj_1 hj_5 hs_9 hF_11_0 h_11), (lf_X8_copy_8 hsz9 hln9 hj_1 hj_5 hs_9 hF_11_0 h_11)⟩⟩, hS.F ht⟩) hS.2.2 dX8_copy_40
      · obtain rfl : v_9 = nI q_9 := e_9.trans hs_9
        refine lv_if_lt (tgt := 35) hx hb dX8_copy_23 (by decide) (fun c_ => absurd c_ (fun q_ => absurd ((nI_ltI (a := q_9) (b := 0) (by omega) (by omega)).mp q_) (by omega))) (fun _ => ?_)
        refine lv_aload_n hx hb dX8_copy_26 rfl (lv_at hl 0 rfl) ?_
        refine va_get (D := (dC, dI)) (ci := 8) (v := .ref m_sz) (C := RX8) (T := TX8) (N := 24) hx hb hts i_X8_copy_X8 hown hK hP 0 rfl rfl 1 (by decide) (hts _ mx_X8_copy_2) (fun _ h9 => h9) rfl dX8_copy_27 ?_
        refine lv_iload_n hx hb dX8_copy_30 rfl (lv_at hl 3 rfl) ?_
        refine va_iald hx hb hK hP 2 0 rfl rfl (vp_in_nI (by omega) (by omega)) dX8_copy_31 ?_
        refine lv_topi (fun v_13 e_13 => ?_)
        rw [nI_clamp (by omega)] at e_13
        rcases hsz9 j_5 (by omega) with hs_13 | ⟨q_13, hq_13, hs_13⟩
        · obtain rfl : v_13 = -1 := e_13.trans hs_13
          refine lv_if_ge (tgt := 41) hx hb dX8_copy_32 (by decide) (fun c_ => absurd c_ (by decide)) (fun _ => ?_)
          refine lv_aload_n hx hb dX8_copy_35 rfl (lv_at hl 0 rfl) ?_
          refine lv_iconst (v := 1) hx hb dX8_copy_36 (by decide) ?_
          have hc_15 := cutW (wc := [(xo_8_rrriirrriiiiiiirrirrrrri mo m_la m_sz m_it ms mt m_st m_mv m_tp (nI mz) ml (nI mp) mk mv mb mw m_rd m_ac (nI ma) m_as m_wo m_ik m_ke m_tr (nI mx))]) hP hD hS hA [0] (by decide +kernel) rfl
          refine va_calli (va_runV (As := [.int 1]) (rest := []) ⟨hx, hb, hml, hown, hts⟩ (r_X8_find l dC dI cI cZ cL cJ s.heap.size mo m_la m_sz m_it m_st m_mv m_tp m_rd m_ac m_as m_wo m_ik m_ke m_tr ms mt ml mk mv mb mw mz mp ma mx 1 ) (cwV 1 hts gX8_copy_X8_find rfl rfl rfl (by decide +kernel) ⟨Nat.le_of_ble_eq_true rfl, Nat.le_of_ble_eq_true rfl⟩) (pvW 8 0 hK hP rfl rfl hc_15) rfl rfl hl.1 rfl (lv_room (Nat.le_of_ble_eq_true rfl)) dX8_copy_37 ⟨Nat.le_of_ble_eq_true rfl, Nat.le_of_ble_eq_true rfl⟩) hS (fun q _ h => hc_15.2.2 q h) hc_15.2.2 (fun r_15 u_15 t_15 H1 locs ht hvm h_15 hB hz1 hk1 hS => ?_)
          refine xl_1_3 hB (fun msn_15 hP1 hD1 hF_15_0 => ?_)
          clear hB
          rw [ht] at hP1
          obtain ⟨hP, hD⟩ := va_join (wr := [(xI m_la cI 8 fn_), (xI m_sz cI 8 fz), (xI m_it cI 320 fi_), (xI m_mv cI 40 fm)]) (w1 := [(xo_8_rrriirrriiiiiiirrirrrrri mo m_la m_sz m_it msn_15 mt m_st m_mv m_tp (nI mz) ml (nI mp) mk mv mb mw m_rd m_ac (nI ma) m_as m_wo m_ik m_ke m_tr (nI mx))]) hP hD [0] [1, 2, 3, 4] rfl rfl (by decide +kernel) (by decide +kernel) hk1 hc_15.2.2 hP1 hD1
          generalize H1 = H at hP hS ⊢
          have hP : va_P (dC, dI) vwCl [(xI m_la cI 8 fn_), (xI m_sz cI 8 fz), (xI m_it cI 320 fi_), (xI m_mv cI 40 fm), (xo_8_rrriirrriiiiiiirrirrrrri mo m_la m_sz m_it msn_15 mt m_st m_mv m_tp (nI mz) ml (nI mp) mk mv mb mw m_rd m_ac (nI ma) m_as m_wo m_ik m_ke m_tr (nI mx))] H := hP
          have hD := dto hP hD
          have hX9 := cut2 (wc := [(xo_8_rrriirrriiiiiiirrirrrrri mo m_la m_sz m_it msn_15 mt m_st m_mv m_tp (nI mz) ml (nI mp) mk mv mb mw m_rd m_ac (nI ma) m_as m_wo m_ik m_ke m_tr (nI mx)), (xI m_la cI 8 fn_), (xI m_sz cI 8 fz), (xI m_it cI 320 fi_), (xI m_mv cI 40 fm)]) hP hD [4, 0, 1, 2, 3] (by decide +kernel) rfl
          exact W.iret (v := r_15) hx hb hr (fun t ht hW => ⟨⟨r_15, (), rfl, (lf_X8_copy_12 hsz9 hln9 hj_1 hj_5 hs_9 hq_9 hs_13 hF_15_0 h_15), ⟨fi_, fm, msn_15, va_Ht ht hX9.1, hX9.2, (lf_X8_copy_10 hsz9 hln9 hj_1 hj_5 hs_9 hq_9 hs_13 hF_15_0 h_15), (lf_X8_copy_11 hsz9 hln9 hj_1 hj_5 hs_9 hq_9 hs_13 hF_15_0 h_15)⟩⟩, hS.F ht⟩) hS.2.2 dX8_copy_40
        · obtain rfl : v_13 = nI q_13 := e_13.trans hs_13
          refine lv_if_ge (tgt := 41) hx hb dX8_copy_32 (by decide) (fun _ => ?_) (fun c_ => absurd ((nI_leI (a := 0) (b := q_13) (by omega) (by omega)).mpr (by omega)) c_)
          refine lv_aload_n hx hb dX8_copy_41 rfl (lv_at hl 0 rfl) ?_
          refine va_get (D := (dC, dI)) (ci := 8) (v := .ref m_la) (C := RX8) (T := TX8) (N := 24) hx hb hts i_X8_copy_X8 hown hK hP 0 rfl rfl 0 (by decide) (hts _ mx_X8_copy_3) (fun _ h9 => h9) rfl dX8_copy_42 ?_
          refine lv_iload_n hx hb dX8_copy_45 rfl (lv_at hl 1 rfl) ?_
          refine va_iald hx hb hK hP 1 0 rfl rfl (vp_in_nI (by omega) (by omega)) dX8_copy_46 ?_
          refine lv_topi (fun v_17 e_17 => ?_)
          have e_17 : v_17 = fn_ j_1 := e_17.trans (congrArg fn_ (nI_clamp (by omega)))
          refine lv_aload_n hx hb dX8_copy_47 rfl (lv_at hl 0 rfl) ?_
          refine va_get (D := (dC, dI)) (ci := 8) (v := .ref m_la) (C := RX8) (T := TX8) (N := 24) hx hb hts i_X8_copy_X8 hown hK hP 0 rfl rfl 0 (by decide) (hts _ mx_X8_copy_3) (fun _ h9 => h9) rfl dX8_copy_48 ?_
          refine lv_iload_n hx hb dX8_copy_51 rfl (lv_at hl 3 rfl) ?_
          refine va_iald hx hb hK hP 1 0 rfl rfl (vp_in_nI (by omega) (by omega)) dX8_copy_52 ?_
          refine lv_topi (fun v_18 e_18 => ?_)
          have e_18 : v_18 = fn_ j_5 := e_18.trans (congrArg fn_ (nI_clamp (by omega)))
          refine lv_icmp_eq (tgt := 62) hx hb dX8_copy_53 (by decide) (fun c_19 => ?_) (fun c_19 => ?_)
          · skip
            refine lv_iload hx hb dX8_copy_62 (lv_at hl 5 rfl) ?_
            refine lv_if_lt (tgt := 108) hx hb dX8_copy_64 (by decide) (fun c_20 => ?_) (fun c_20 => ?_)
            · skip
              refine lv_aload_n hx hb dX8_copy_108 rfl (lv_at hl 0 rfl) ?_
              refine lv_iconst (v := 2) hx hb dX8_copy_109 (by decide) ?_
              have hc_21 := cutW (wc := [(xo_8_rrriirrriiiiiiirrirrrrri mo m_la m_sz m_it ms mt m_st m_mv m_tp (nI mz) ml (nI mp) mk mv mb mw m_rd m_ac (nI ma) m_as m_wo m_ik m_ke m_tr (nI mx))]) hP hD hS hA [0] (by decide +kernel) rfl
              refine va_calli (va_runV (As := [.int 2]) (rest := []) ⟨hx, hb, hml, hown, hts⟩ (r_X8_find l dC dI cI cZ cL cJ s.heap.size mo m_la m_sz m_it m_st m_mv m_tp m_rd m_ac m_as m_wo m_ik m_ke m_tr ms mt ml mk mv mb mw mz mp ma mx 2 ) (cwV 1 hts gX8_copy_X8_find rfl rfl rfl (by decide +kernel) ⟨Nat.le_of_ble_eq_true rfl, Nat.le_of_ble_eq_true rfl⟩) (pvW 8 0 hK hP rfl rfl hc_21) rfl rfl hl.1 rfl (lv_room (Nat.le_of_ble_eq_true rfl)) dX8_copy_110 ⟨Nat.le_of_ble_eq_true rfl, Nat.le_of_ble_eq_true rfl⟩) hS (fun q _ h => hc_21.2.2 q h) hc_21.2.2 (fun r_21 u_21 t_21 H1 locs ht hvm h_21 hB hz1 hk1 hS => ?_)
              refine xl_1_3 hB (fun msn_21 hP1 hD1 hF_21_0 => ?_)
              clear hB
              rw [ht] at hP1
              obtain ⟨hP, hD⟩ := va_join (wr := [(xI m_la cI 8 fn_), (xI m_sz cI 8 fz), (xI m_it cI 320 fi_), (xI m_mv cI 40 fm)]) (w1 := [(xo_8_rrriirrriiiiiiirrirrrrri mo m_la m_sz m_it msn_21 mt m_st m_mv m_tp (nI mz) ml (nI mp) mk mv mb mw m_rd m_ac (nI ma) m_as m_wo m_ik m_ke m_tr (nI mx))]) hP hD [0] [1, 2, 3, 4] rfl rfl (by decide +kernel) (by decide +kernel) hk1 hc_21.2.2 hP1 hD1
              generalize H1 = H at hP hS ⊢
              have hP : va_P (dC, dI) vwCl [(xI m_la cI 8 fn_), (xI m_sz cI 8 fz), (xI m_it cI 320 fi_), (xI m_mv cI 40 fm), (xo_8_rrriirrriiiiiiirrirrrrri mo m_la m_sz m_it msn_21 mt m_st m_mv m_tp (nI mz) ml (nI mp) mk mv mb mw m_rd m_ac (nI ma) m_as m_wo m_ik m_ke m_tr (nI mx))] H := hP
              have hD := dto hP hD
              have hX9 := cut2 (wc := [(xo_8_rrriirrriiiiiiirrirrrrri mo m_la m_sz m_it msn_21 mt m_st m_mv m_tp (nI mz) ml (nI mp) mk mv mb mw m_rd m_ac (nI ma) m_as m_wo m_ik m_ke m_tr (nI mx)), (xI m_la cI 8 fn_), (xI m_sz cI 8 fz), (xI m_it cI 320 fi_), (xI m_mv cI 40 fm)]) hP hD [4, 0, 1, 2, 3] (by decide +kernel) rfl
              exact W.iret (v := r_21) hx hb hr (fun t ht hW => ⟨⟨r_21, (), rfl, (lf_X8_copy_15 hsz9 hln9 hj_1 hj_5 hs_9 hq_9 hs_13 hq_13 e_17 e_18 c_19 c_20 hF_21_0 h_21), ⟨fi_, fm, msn_21, va_Ht ht hX9.1, hX9.2, (lf_X8_copy_13 hsz9 hln9 hj_1 hj_5 hs_9 hq_9 hs_13 hq_13 e_17 e_18 c_19 c_20 hF_21_0 h_21), (lf_X8_copy_14 hsz9 hln9 hj_1 hj_5 hs_9 hq_9 hs_13 hq_13 e_17 e_18 c_19 c_20 hF_21_0 h_21)⟩⟩, hS.F ht⟩) hS.2.2 dX8_copy_113
            · skip
              refine lv_iload_n hx hb dX8_copy_67 rfl (lv_at hl 2 rfl) ?_
              refine lv_i2l hx hb dX8_copy_68 rfl ?_
              refine lv_lconst (v := 0) hx hb dX8_copy_69 (by decide) ?_
              refine lv_aload_n hx hb dX8_copy_70 rfl (lv_at hl 0 rfl) ?_
              refine va_get (D := (dC, dI)) (ci := 8) (v := .ref m_sz) (C := RX8) (T := TX8) (N := 24) hx hb hts i_X8_copy_X8 hown hK hP 0 rfl rfl 1 (by decide) (hts _ mx_X8_copy_2) (fun _ h9 => h9) rfl dX8_copy_71 ?_
              refine lv_iload_n hx hb dX8_copy_74 rfl (lv_at hl 1 rfl) ?_
              refine va_iald hx hb hK hP 2 0 rfl rfl (vp_in_nI (by omega) (by omega)) dX8_copy_75 ?_
              refine lv_topi (fun v_22 e_22 => ?_)
              obtain rfl : v_22 = (nI q_9) := e_22.trans (by rw [nI_clamp (by omega)]; exact hs_9)
              refine lv_i2l hx hb dX8_copy_76 rfl ?_
              refine lv_iload hx hb dX8_copy_77 (lv_at hl 5 rfl) ?_
              refine lv_i2l hx hb dX8_copy_79 rfl ?_
              refine lv_lsub hx hb dX8_copy_80 ?_
              refine lv_topl (fun v_23 e_23 => ?_)
              have hPc_24 := hP.sub (ws' := []) [] rfl
              refine vp_callSi (W.runS (As := [.long (a1).toInt64, .long 0, .long v_23]) (rest := []) ⟨hx, hb, hml, hown, hts⟩ (r_X8_in l dC dI cI cZ cL cJ ((a1).toInt64) 0 v_23 ) (va_cwS 3 hts gX8_copy_X8_in rfl rfl rfl (by decide +kernel) ⟨Nat.le_of_ble_eq_true rfl, Nat.le_of_ble_eq_true rfl⟩) (psP hK hPc_24) rfl rfl hl.1 rfl (lv_room (Nat.le_of_ble_eq_true rfl)) dX8_copy_81 ⟨Nat.le_of_ble_eq_true rfl, Nat.le_of_ble_eq_true rfl⟩) (fun r_24 h_24 => ?_)
              rcases h_24 with ⟨h_24, f_24_0_0⟩ | ⟨h_24, f_24_1_0⟩
              · subst h_24
                refine lv_if_eq (tgt := 108) hx hb dX8_copy_84 (by decide) (fun _ => ?_) (fun c_ => absurd (by decide) c_)
                refine lv_aload_n hx hb dX8_copy_108 rfl (lv_at hl 0 rfl) ?_
                refine lv_iconst (v := 2) hx hb dX8_copy_109 (by decide) ?_
                have hc_26 := cutW (wc := [(xo_8_rrriirrriiiiiiirrirrrrri mo m_la m_sz m_it ms mt m_st m_mv m_tp (nI mz) ml (nI mp) mk mv mb mw m_rd m_ac (nI ma) m_as m_wo m_ik m_ke m_tr (nI mx))]) hP hD hS hA [0] (by decide +kernel) rfl
                refine va_calli (va_runV (As := [.int 2]) (rest := []) ⟨hx, hb, hml, hown, hts⟩ (r_X8_find l dC dI cI cZ cL cJ s.heap.size mo m_la m_sz m_it m_st m_mv m_tp m_rd m_ac m_as m_wo m_ik m_ke m_tr ms mt ml mk mv mb mw mz mp ma mx 2 ) (cwV 1 hts gX8_copy_X8_find rfl rfl rfl (by decide +kernel) ⟨Nat.le_of_ble_eq_true rfl, Nat.le_of_ble_eq_true rfl⟩) (pvW 8 0 hK hP rfl rfl hc_26) rfl rfl hl.1 rfl (lv_room (Nat.le_of_ble_eq_true rfl)) dX8_copy_110 ⟨Nat.le_of_ble_eq_true rfl, Nat.le_of_ble_eq_true rfl⟩) hS (fun q _ h => hc_26.2.2 q h) hc_26.2.2 (fun r_26 u_26 t_26 H1 locs ht hvm h_26 hB hz1 hk1 hS => ?_)
                refine xl_1_3 hB (fun msn_26 hP1 hD1 hF_26_0 => ?_)
                clear hB
                rw [ht] at hP1
                obtain ⟨hP, hD⟩ := va_join (wr := [(xI m_la cI 8 fn_), (xI m_sz cI 8 fz), (xI m_it cI 320 fi_), (xI m_mv cI 40 fm)]) (w1 := [(xo_8_rrriirrriiiiiiirrirrrrri mo m_la m_sz m_it msn_26 mt m_st m_mv m_tp (nI mz) ml (nI mp) mk mv mb mw m_rd m_ac (nI ma) m_as m_wo m_ik m_ke m_tr (nI mx))]) hP hD [0] [1, 2, 3, 4] rfl rfl (by decide +kernel) (by decide +kernel) hk1 hc_26.2.2 hP1 hD1
                generalize H1 = H at hP hS ⊢
                have hP : va_P (dC, dI) vwCl [(xI m_la cI 8 fn_), (xI m_sz cI 8 fz), (xI m_it cI 320 fi_), (xI m_mv cI 40 fm), (xo_8_rrriirrriiiiiiirrirrrrri mo m_la m_sz m_it msn_26 mt m_st m_mv m_tp (nI mz) ml (nI mp) mk mv mb mw m_rd m_ac (nI ma) m_as m_wo m_ik m_ke m_tr (nI mx))] H := hP
                have hD := dto hP hD
                have hX9 := cut2 (wc := [(xo_8_rrriirrriiiiiiirrirrrrri mo m_la m_sz m_it msn_26 mt m_st m_mv m_tp (nI mz) ml (nI mp) mk mv mb mw m_rd m_ac (nI ma) m_as m_wo m_ik m_ke m_tr (nI mx)), (xI m_la cI 8 fn_), (xI m_sz cI 8 fz), (xI m_it cI 320 fi_), (xI m_mv cI 40 fm)]) hP hD [4, 0, 1, 2, 3] (by decide +kernel) rfl
                exact W.iret (v := r_26) hx hb hr (fun t ht hW => ⟨⟨r_26, (), rfl, (lf_X8_copy_18 hsz9 hln9 hj_1 hj_5 hs_9 hq_9 hs_13 hq_13 e_17 e_18 c_19 c_20 e_23 f_24_0_0 hF_26_0 h_26), ⟨fi_, fm, msn_26, va_Ht ht hX9.1, hX9.2, (lf_X8_copy_16 hsz9 hln9 hj_1 hj_5 hs_9 hq_9 hs_13 hq_13 e_17 e_18 c_19 c_20 e_23 f_24_0_0 hF_26_0 h_26), (lf_X8_copy_17 hsz9 hln9 hj_1 hj_5 hs_9 hq_9 hs_13 hq_13 e_17 e_18 c_19 c_20 e_23 f_24_0_0 hF_26_0 h_26)⟩⟩, hS.F ht⟩) hS.2.2 dX8_copy_113
              · subst h_24
                obtain ⟨pa_27, pb_27, ea_27, eb_27, hab_27⟩ := cp_in (q := q_9) (by omega) c_20 e_23 f_24_1_0
                subst ea_27
                subst eb_27
                refine lv_if_eq (tgt := 108) hx hb dX8_copy_84 (by decide) (fun c_ => absurd c_ (by decide)) (fun _ => ?_)
                refine lv_iload hx hb dX8_copy_87 (lv_at hl 4 rfl) ?_
                refine lv_i2l hx hb dX8_copy_89 rfl ?_
                refine lv_lconst (v := 0) hx hb dX8_copy_90 (by decide) ?_
                refine lv_aload_n hx hb dX8_copy_91 rfl (lv_at hl 0 rfl) ?_
                refine va_get (D := (dC, dI)) (ci := 8) (v := .ref m_sz) (C := RX8) (T := TX8) (N := 24) hx hb hts i_X8_copy_X8 hown hK hP 0 rfl rfl 1 (by decide) (hts _ mx_X8_copy_2) (fun _ h9 => h9) rfl dX8_copy_92 ?_
                refine lv_iload_n hx hb dX8_copy_95 rfl (lv_at hl 3 rfl) ?_
                refine va_iald hx hb hK hP 2 0 rfl rfl (vp_in_nI (by omega) (by omega)) dX8_copy_96 ?_
                refine lv_topi (fun v_29 e_29 => ?_)
                obtain rfl : v_29 = (nI q_13) := e_29.trans (by rw [nI_clamp (by omega)]; exact hs_13)
                refine lv_i2l hx hb dX8_copy_97 rfl ?_
                refine lv_iload hx hb dX8_copy_98 (lv_at hl 5 rfl) ?_
                refine lv_i2l hx hb dX8_copy_100 rfl ?_
                refine lv_lsub hx hb dX8_copy_101 ?_
                refine lv_topl (fun v_30 e_30 => ?_)
                have hPc_31 := hP.sub (ws' := []) [] rfl
                refine vp_callSi (W.runS (As := [.long (a3).toInt64, .long 0, .long v_30]) (rest := []) ⟨hx, hb, hml, hown, hts⟩ (r_X8_in l dC dI cI cZ cL cJ ((a3).toInt64) 0 v_30 ) (va_cwS 3 hts gX8_copy_X8_in rfl rfl rfl (by decide +kernel) ⟨Nat.le_of_ble_eq_true rfl, Nat.le_of_ble_eq_true rfl⟩) (psP hK hPc_31) rfl rfl hl.1 rfl (lv_room (Nat.le_of_ble_eq_true rfl)) dX8_copy_102 ⟨Nat.le_of_ble_eq_true rfl, Nat.le_of_ble_eq_true rfl⟩) (fun r_31 h_31 => ?_)
                rcases h_31 with ⟨h_31, f_31_0_0⟩ | ⟨h_31, f_31_1_0⟩
                · subst h_31
                  refine lv_if_ne (tgt := 114) hx hb dX8_copy_105 (by decide) (fun c_ => absurd (by decide) c_) (fun _ => ?_)
                  refine lv_aload_n hx hb dX8_copy_108 rfl (lv_at hl 0 rfl) ?_
                  refine lv_iconst (v := 2) hx hb dX8_copy_109 (by decide) ?_
                  have hc_33 := cutW (wc := [(xo_8_rrriirrriiiiiiirrirrrrri mo m_la m_sz m_it ms mt m_st m_mv m_tp (nI mz) ml (nI mp) mk mv mb mw m_rd m_ac (nI ma) m_as m_wo m_ik m_ke m_tr (nI mx))]) hP hD hS hA [0] (by decide +kernel) rfl
                  refine va_calli (va_runV (As := [.int 2]) (rest := []) ⟨hx, hb, hml, hown, hts⟩ (r_X8_find l dC dI cI cZ cL cJ s.heap.size mo m_la m_sz m_it m_st m_mv m_tp m_rd m_ac m_as m_wo m_ik m_ke m_tr ms mt ml mk mv mb mw mz mp ma mx 2 ) (cwV 1 hts gX8_copy_X8_find rfl rfl rfl (by decide +kernel) ⟨Nat.le_of_ble_eq_true rfl, Nat.le_of_ble_eq_true rfl⟩) (pvW 8 0 hK hP rfl rfl hc_33) rfl rfl hl.1 rfl (lv_room (Nat.le_of_ble_eq_true rfl)) dX8_copy_110 ⟨Nat.le_of_ble_eq_true rfl, Nat.le_of_ble_eq_true rfl⟩) hS (fun q _ h => hc_33.2.2 q h) hc_33.2.2 (fun r_33 u_33 t_33 H1 locs ht hvm h_33 hB hz1 hk1 hS => ?_)
                  refine xl_1_3 hB (fun msn_33 hP1 hD1 hF_33_0 => ?_)
                  clear hB
                  rw [ht] at hP1
                  obtain ⟨hP, hD⟩ := va_join (wr := [(xI m_la cI 8 fn_), (xI m_sz cI 8 fz), (xI m_it cI 320 fi_), (xI m_mv cI 40 fm)]) (w1 := [(xo_8_rrriirrriiiiiiirrirrrrri mo m_la m_sz m_it msn_33 mt m_st m_mv m_tp (nI mz) ml (nI mp) mk mv mb mw m_rd m_ac (nI ma) m_as m_wo m_ik m_ke m_tr (nI mx))]) hP hD [0] [1, 2, 3, 4] rfl rfl (by decide +kernel) (by decide +kernel) hk1 hc_33.2.2 hP1 hD1
                  generalize H1 = H at hP hS ⊢
                  have hP : va_P (dC, dI) vwCl [(xI m_la cI 8 fn_), (xI m_sz cI 8 fz), (xI m_it cI 320 fi_), (xI m_mv cI 40 fm), (xo_8_rrriirrriiiiiiirrirrrrri mo m_la m_sz m_it msn_33 mt m_st m_mv m_tp (nI mz) ml (nI mp) mk mv mb mw m_rd m_ac (nI ma) m_as m_wo m_ik m_ke m_tr (nI mx))] H := hP
                  have hD := dto hP hD
                  have hX9 := cut2 (wc := [(xo_8_rrriirrriiiiiiirrirrrrri mo m_la m_sz m_it msn_33 mt m_st m_mv m_tp (nI mz) ml (nI mp) mk mv mb mw m_rd m_ac (nI ma) m_as m_wo m_ik m_ke m_tr (nI mx)), (xI m_la cI 8 fn_), (xI m_sz cI 8 fz), (xI m_it cI 320 fi_), (xI m_mv cI 40 fm)]) hP hD [4, 0, 1, 2, 3] (by decide +kernel) rfl
                  exact W.iret (v := r_33) hx hb hr (fun t ht hW => ⟨⟨r_33, (), rfl, (lf_X8_copy_21 hsz9 hln9 hj_1 hj_5 hs_9 hq_9 hs_13 hq_13 e_17 e_18 c_19 c_20 e_23 f_24_1_0 hab_27 e_30 f_31_0_0 hF_33_0 h_33), ⟨fi_, fm, msn_33, va_Ht ht hX9.1, hX9.2, (lf_X8_copy_19 hsz9 hln9 hj_1 hj_5 hs_9 hq_9 hs_13 hq_13 e_17 e_18 c_19 c_20 e_23 f_24_1_0 hab_27 e_30 f_31_0_0 hF_33_0 h_33), (lf_X8_copy_20 hsz9 hln9 hj_1 hj_5 hs_9 hq_9 hs_13 hq_13 e_17 e_18 c_19 c_20 e_23 f_24_1_0 hab_27 e_30 f_31_0_0 hF_33_0 h_33)⟩⟩, hS.F ht⟩) hS.2.2 dX8_copy_113
                · subst h_31
                  obtain ⟨pa_34, pb_34, ea_34, eb_34, hab_34⟩ := cp_in (q := q_13) (by omega) (nI_pos (by omega)) e_30 f_31_1_0
                  subst ea_34
                  have eb_34 : pb_27 = pb_34 := nI_inj2 eb_34 (by omega) (by omega)
                  refine lv_if_ne (tgt := 114) hx hb dX8_copy_105 (by decide) (fun _ => ?_) (fun c_ => absurd c_ (by decide))
                  refine lv_iconst (v := 0) hx hb dX8_copy_114 (by decide) ?_
                  refine lv_istore (lv' := [(6, .int 0), (0, .ref mo), (1, .int (nI j_1)), (2, .int (nI pa_27)), (3, .int (nI j_5)), (4, .int (nI pa_34)), (5, .int (nI pb_27))]) hx hb dX8_copy_115 hl (by decide) rfl (fun ls hl => ?_)
                  refine lp_go (σ := (Nat → Int32)) (fun ii (st : (Nat → Int32)) H locs ls => match st with | w_42 => lv_has ls 7 [(6, .int (nI ii)), (0, .ref mo), (1, .int (nI j_1)), (2, .int (nI pa_27)), (3, .int (nI j_5)), (4, .int (nI pa_34)), (5, .int (nI pb_27))] ∧ va_P (dC, dI) vwCl [(xo_8_rrriirrriiiiiiirrirrrrri mo m_la m_sz m_it ms mt m_st m_mv m_tp (nI mz) ml (nI mp) mk mv mb mw m_rd m_ac (nI ma) m_as m_wo m_ik m_ke m_tr (nI mx)), (xI m_la cI 8 fn_), (xI m_sz cI 8 fz), (xI m_it cI 320 fi_), (xI m_mv cI 40 w_42)] H ∧ va_D A [(xo_8_rrriirrriiiiiiirrirrrrri mo m_la m_sz m_it ms mt m_st m_mv m_tp (nI mz) ml (nI mp) mk mv mb mw m_rd m_ac (nI ma) m_as m_wo m_ik m_ke m_tr (nI mx)), (xI m_la cI 8 fn_), (xI m_sz cI 8 fz), (xI m_it cI 320 fi_), (xI m_mv cI 40 w_42)] ∧ va_S A s.heap H locs ∧ (∀ j : Nat, j < ii → w_42 j = fi_ ((40 * j_1 + pa_27) + j))) pb_27 ?_ ?_ 0 (by omega) (fm) ⟨lv_sub hl [0, 1, 2, 3, 4, 5, 6] rfl, hP.sub (ws' := [(xo_8_rrriirrriiiiiiirrirrrrri mo m_la m_sz m_it ms mt m_st m_mv m_tp (nI mz) ml (nI mp) mk mv mb mw m_rd m_ac (nI ma) m_as m_wo m_ik m_ke m_tr (nI mx)), (xI m_la cI 8 fn_), (xI m_sz cI 8 fz), (xI m_it cI 320 fi_), (xI m_mv cI 40 fm)]) [0, 1, 2, 3, 4] rfl, hD.sub (ws' := [(xo_8_rrriirrriiiiiiirrirrrrri mo m_la m_sz m_it ms mt m_st m_mv m_tp (nI mz) ml (nI mp) mk mv mb mw m_rd m_ac (nI ma) m_as m_wo m_ik m_ke m_tr (nI mx)), (xI m_la cI 8 fn_), (xI m_sz cI 8 fz), (xI m_it cI 320 fi_), (xI m_mv cI 40 fm)]) [0, 1, 2, 3, 4] (by decide +kernel) rfl, hS, (fun j h_ => absurd h_ (Nat.not_lt_zero j))⟩
                  · rintro ii w_42 H locs ls hii ⟨hl, hP, hD, hS, haf_0⟩ ih
                    refine lv_iload hx hb dX8_copy_117 (lv_at hl 0 rfl) ?_
                    refine lv_iload hx hb dX8_copy_119 (lv_at hl 6 rfl) ?_
                    refine lv_icmp_ge (tgt := 151) hx hb dX8_copy_121 (by decide) (fun c_ => absurd c_ (fun q_ => absurd ((nI_leI (a := pb_27) (b := ii) (by omega) (by omega)).mp q_) (by omega))) (fun _ => ?_)
                    refine lv_aload_n hx hb dX8_copy_124 rfl (lv_at hl 1 rfl) ?_
                    refine va_get (D := (dC, dI)) (ci := 8) (v := .ref m_mv) (C := RX8) (T := TX8) (N := 24) hx hb hts i_X8_copy_X8 hown hK hP 0 rfl rfl 6 (by decide) (hts _ mx_X8_copy_4) (fun _ h9 => h9) rfl dX8_copy_125 ?_
                    refine lv_iload hx hb dX8_copy_128 (lv_at hl 0 rfl) ?_
                    refine lv_aload_n hx hb dX8_copy_130 rfl (lv_at hl 1 rfl) ?_
                    refine va_get (D := (dC, dI)) (ci := 8) (v := .ref m_it) (C := RX8) (T := TX8) (N := 24) hx hb hts i_X8_copy_X8 hown hK hP 0 rfl rfl 2 (by decide) (hts _ mx_X8_copy_5) (fun _ h9 => h9) rfl dX8_copy_131 ?_
                    refine lv_bipush (v := 40) hx hb dX8_copy_134 (by decide) ?_
                    refine lv_iload_n hx hb dX8_copy_136 rfl (lv_at hl 2 rfl) ?_
                    refine lv_imul hx hb dX8_copy_137 ?_
                    refine lv_topi (fun v_51 e_51 => ?_)
                    obtain rfl : v_51 = (nI (40 * j_1)) := (e_51).trans (pk_mul 40 j_1)
                    refine lv_iload_n hx hb dX8_copy_138 rfl (lv_at hl 3 rfl) ?_
                    refine lv_iadd hx hb dX8_copy_139 ?_
                    refine lv_topi (fun v_52 e_52 => ?_)
                    obtain rfl : v_52 = (nI ((40 * j_1) + pa_27)) := (e_52).trans (nI_add (40 * j_1) pa_27)
                    refine lv_iload hx hb dX8_copy_140 (lv_at hl 0 rfl) ?_
                    refine lv_iadd hx hb dX8_copy_142 ?_
                    refine lv_topi (fun v_53 e_53 => ?_)
                    obtain rfl : v_53 = (nI (((40 * j_1) + pa_27) + ii)) := (e_53).trans (nI_add ((40 * j_1) + pa_27) ii)
                    refine va_iald hx hb hK hP 3 0 rfl rfl (vp_in_nI (by omega) (by omega)) dX8_copy_143 ?_
                    refine lv_topi (fun v_54 e_54 => ?_)
                    have e_54 : v_54 = fi_ (((40 * j_1) + pa_27) + ii) := e_54.trans (congrArg fi_ (nI_clamp (by omega)))
                    refine va_iast hx hb hK hP hD hS 4 0 rfl rfl (vp_in_nI (by omega) (by omega)) dX8_copy_144 (fun H locs hP hD hS => ?_)
                    generalize hg_55 : upd w_42 ((nI ii) : Int32).toNatClampNeg v_54 = g_55 at hP hD
                    have hu_55 : g_55 = upd w_42 ii v_54 := (by rw [← hg_55, nI_clamp (by omega)])
                    have hP : va_P (dC, dI) vwCl [(xo_8_rrriirrriiiiiiirrirrrrri mo m_la m_sz m_it ms mt m_st m_mv m_tp (nI mz) ml (nI mp) mk mv mb mw m_rd m_ac (nI ma) m_as m_wo m_ik m_ke m_tr (nI mx)), (xI m_la cI 8 fn_), (xI m_sz cI 8 fz), (xI m_it cI 320 fi_), (xI m_mv cI 40 g_55)] H := hP
                    have hD := dto hP hD
                    refine lv_iinc (v := (nI (ii + 1))) (lv' := [(6, .int (nI (ii + 1))), (0, .ref mo), (1, .int (nI j_1)), (2, .int (nI pa_27)), (3, .int (nI j_5)), (4, .int (nI pa_34)), (5, .int (nI pb_27))]) hx hb dX8_copy_145 hl (k := 0) rfl (nI_add ii 1) (by decide) rfl (fun ls hl => ?_)
                    refine lv_goto (tgt := 117) hx hb dX8_copy_148 (by decide) ?_
                    exact ih (g_55) _ _ _ ⟨lv_sub hl [0, 1, 2, 3, 4, 5, 6] rfl, hP.sub (ws' := [(xo_8_rrriirrriiiiiiirrirrrrri mo m_la m_sz m_it ms mt m_st m_mv m_tp (nI mz) ml (nI mp) mk mv mb mw m_rd m_ac (nI ma) m_as m_wo m_ik m_ke m_tr (nI mx)), (xI m_la cI 8 fn_), (xI m_sz cI 8 fz), (xI m_it cI 320 fi_), (xI m_mv cI 40 g_55)]) [0, 1, 2, 3, 4] rfl, hD.sub (ws' := [(xo_8_rrriirrriiiiiiirrirrrrri mo m_la m_sz m_it ms mt m_st m_mv m_tp (nI mz) ml (nI mp) mk mv mb mw m_rd m_ac (nI ma) m_as m_wo m_ik m_ke m_tr (nI mx)), (xI m_la cI 8 fn_), (xI m_sz cI 8 fz), (xI m_it cI 320 fi_), (xI m_mv cI 40 g_55)]) [0, 1, 2, 3, 4] (by decide +kernel) rfl, hS, (cp_s (a := (40 * j_1 + pa_27)) haf_0 (by omega) (e_54.trans (congrArg fi_ (nI_clamp (by omega)).symm)) hg_55)⟩
                  · rintro w_42 H locs ls ⟨hl, hP, hD, hS, haf_0⟩
                    refine lv_iload hx hb dX8_copy_117 (lv_at hl 0 rfl) ?_
                    refine lv_iload hx hb dX8_copy_119 (lv_at hl 6 rfl) ?_
                    refine lv_icmp_ge (tgt := 151) hx hb dX8_copy_121 (by decide) (fun _ => ?_) (fun c_ => absurd ((nI_leI (a := pb_27) (b := pb_27) (by omega) (by omega)).mpr (by omega)) c_)
                    refine lv_iconst (v := 0) hx hb dX8_copy_151 (by decide) ?_
                    have haf_m := haf_0
                    refine lv_istore (lv' := [(6, .int 0), (0, .ref mo), (1, .int (nI j_1)), (2, .int (nI pa_27)), (3, .int (nI j_5)), (4, .int (nI pa_34)), (5, .int (nI pb_27))]) hx hb dX8_copy_152 hl (by decide) rfl (fun ls hl => ?_)
                    refine lp_go (σ := (Nat → Int32)) (fun ii (st : (Nat → Int32)) H locs ls => match st with | w_63 => lv_has ls 7 [(6, .int (nI ii)), (0, .ref mo), (1, .int (nI j_1)), (2, .int (nI pa_27)), (3, .int (nI j_5)), (4, .int (nI pa_34)), (5, .int (nI pb_27))] ∧ va_P (dC, dI) vwCl [(xo_8_rrriirrriiiiiiirrirrrrri mo m_la m_sz m_it ms mt m_st m_mv m_tp (nI mz) ml (nI mp) mk mv mb mw m_rd m_ac (nI ma) m_as m_wo m_ik m_ke m_tr (nI mx)), (xI m_la cI 8 fn_), (xI m_sz cI 8 fz), (xI m_it cI 320 w_63), (xI m_mv cI 40 w_42)] H ∧ va_D A [(xo_8_rrriirrriiiiiiirrirrrrri mo m_la m_sz m_it ms mt m_st m_mv m_tp (nI mz) ml (nI mp) mk mv mb mw m_rd m_ac (nI ma) m_as m_wo m_ik m_ke m_tr (nI mx)), (xI m_la cI 8 fn_), (xI m_sz cI 8 fz), (xI m_it cI 320 w_63), (xI m_mv cI 40 w_42)] ∧ va_S A s.heap H locs ∧ (∀ j : Nat, j < ii → w_63 ((40 * j_5 + pa_34) + j) = w_42 j) ∧ (∀ j : Nat, j < (40 * j_5 + pa_34) ∨ (40 * j_5 + pa_34) + pb_27 ≤ j → w_63 j = fi_ j)) pb_27 ?_ ?_ 0 (by omega) (fi_) ⟨lv_sub hl [0, 1, 2, 3, 4, 5, 6] rfl, hP.sub (ws' := [(xo_8_rrriirrriiiiiiirrirrrrri mo m_la m_sz m_it ms mt m_st m_mv m_tp (nI mz) ml (nI mp) mk mv mb mw m_rd m_ac (nI ma) m_as m_wo m_ik m_ke m_tr (nI mx)), (xI m_la cI 8 fn_), (xI m_sz cI 8 fz), (xI m_it cI 320 fi_), (xI m_mv cI 40 w_42)]) [0, 1, 2, 3, 4] rfl, hD.sub (ws' := [(xo_8_rrriirrriiiiiiirrirrrrri mo m_la m_sz m_it ms mt m_st m_mv m_tp (nI mz) ml (nI mp) mk mv mb mw m_rd m_ac (nI ma) m_as m_wo m_ik m_ke m_tr (nI mx)), (xI m_la cI 8 fn_), (xI m_sz cI 8 fz), (xI m_it cI 320 fi_), (xI m_mv cI 40 w_42)]) [0, 1, 2, 3, 4] (by decide +kernel) rfl, hS, (fun j h_ => absurd h_ (Nat.not_lt_zero j)), (fun j _ => rfl)⟩
                    · rintro ii w_63 H locs ls hii ⟨hl, hP, hD, hS, haf_0, haf_1⟩ ih
                      refine lv_iload hx hb dX8_copy_154 (lv_at hl 0 rfl) ?_
                      refine lv_iload hx hb dX8_copy_156 (lv_at hl 6 rfl) ?_
                      refine lv_icmp_ge (tgt := 189) hx hb dX8_copy_158 (by decide) (fun c_ => absurd c_ (fun q_ => absurd ((nI_leI (a := pb_27) (b := ii) (by omega) (by omega)).mp q_) (by omega))) (fun _ => ?_)
                      refine lv_aload_n hx hb dX8_copy_161 rfl (lv_at hl 1 rfl) ?_
                      refine va_get (D := (dC, dI)) (ci := 8) (v := .ref m_it) (C := RX8) (T := TX8) (N := 24) hx hb hts i_X8_copy_X8 hown hK hP 0 rfl rfl 2 (by decide) (hts _ mx_X8_copy_5) (fun _ h9 => h9) rfl dX8_copy_162 ?_
                      refine lv_bipush (v := 40) hx hb dX8_copy_165 (by decide) ?_
                      refine lv_iload_n hx hb dX8_copy_167 rfl (lv_at hl 4 rfl) ?_
                      refine lv_imul hx hb dX8_copy_168 ?_
                      refine lv_topi (fun v_72 e_72 => ?_)
                      obtain rfl : v_72 = (nI (40 * j_5)) := (e_72).trans (pk_mul 40 j_5)
                      refine lv_iload hx hb dX8_copy_169 (lv_at hl 5 rfl) ?_
                      refine lv_iadd hx hb dX8_copy_171 ?_
                      refine lv_topi (fun v_73 e_73 => ?_)
                      obtain rfl : v_73 = (nI ((40 * j_5) + pa_34)) := (e_73).trans (nI_add (40 * j_5) pa_34)
                      refine lv_iload hx hb dX8_copy_172 (lv_at hl 0 rfl) ?_
                      refine lv_iadd hx hb dX8_copy_174 ?_
                      refine lv_topi (fun v_74 e_74 => ?_)
                      obtain rfl : v_74 = (nI (((40 * j_5) + pa_34) + ii)) := (e_74).trans (nI_add ((40 * j_5) + pa_34) ii)
                      refine lv_aload_n hx hb dX8_copy_175 rfl (lv_at hl 1 rfl) ?_
                      refine va_get (D := (dC, dI)) (ci := 8) (v := .ref m_mv) (C := RX8) (T := TX8) (N := 24) hx hb hts i_X8_copy_X8 hown hK hP 0 rfl rfl 6 (by decide) (hts _ mx_X8_copy_4) (fun _ h9 => h9) rfl dX8_copy_176 ?_
                      refine lv_iload hx hb dX8_copy_179 (lv_at hl 0 rfl) ?_
                      refine va_iald hx hb hK hP 4 0 rfl rfl (vp_in_nI (by omega) (by omega)) dX8_copy_181 ?_
                      refine lv_topi (fun v_75 e_75 => ?_)
                      have e_75 : v_75 = w_42 ii := e_75.trans (congrArg w_42 (nI_clamp (by omega)))
                      refine va_iast hx hb hK hP hD hS 3 0 rfl rfl (vp_in_nI (by omega) (by omega)) dX8_copy_182 (fun H locs hP hD hS => ?_)
                      generalize hg_76 : upd w_63 ((nI (((40 * j_5) + pa_34) + ii)) : Int32).toNatClampNeg v_75 = g_76 at hP hD
                      have hu_76 : g_76 = upd w_63 (((40 * j_5) + pa_34) + ii) v_75 := (by rw [← hg_76, nI_clamp (by omega)])
                      have hP : va_P (dC, dI) vwCl [(xo_8_rrriirrriiiiiiirrirrrrri mo m_la m_sz m_it ms mt m_st m_mv m_tp (nI mz) ml (nI mp) mk mv mb mw m_rd m_ac (nI ma) m_as m_wo m_ik m_ke m_tr (nI mx)), (xI m_la cI 8 fn_), (xI m_sz cI 8 fz), (xI m_it cI 320 g_76), (xI m_mv cI 40 w_42)] H := hP
                      have hD := dto hP hD
                      refine lv_iinc (v := (nI (ii + 1))) (lv' := [(6, .int (nI (ii + 1))), (0, .ref mo), (1, .int (nI j_1)), (2, .int (nI pa_27)), (3, .int (nI j_5)), (4, .int (nI pa_34)), (5, .int (nI pb_27))]) hx hb dX8_copy_183 hl (k := 0) rfl (nI_add ii 1) (by decide) rfl (fun ls hl => ?_)
                      refine lv_goto (tgt := 154) hx hb dX8_copy_186 (by decide) ?_
                      exact ih (g_76) _ _ _ ⟨lv_sub hl [0, 1, 2, 3, 4, 5, 6] rfl, hP.sub (ws' := [(xo_8_rrriirrriiiiiiirrirrrrri mo m_la m_sz m_it ms mt m_st m_mv m_tp (nI mz) ml (nI mp) mk mv mb mw m_rd m_ac (nI ma) m_as m_wo m_ik m_ke m_tr (nI mx)), (xI m_la cI 8 fn_), (xI m_sz cI 8 fz), (xI m_it cI 320 g_76), (xI m_mv cI 40 w_42)]) [0, 1, 2, 3, 4] rfl, hD.sub (ws' := [(xo_8_rrriirrriiiiiiirrirrrrri mo m_la m_sz m_it ms mt m_st m_mv m_tp (nI mz) ml (nI mp) mk mv mb mw m_rd m_ac (nI ma) m_as m_wo m_ik m_ke m_tr (nI mx)), (xI m_la cI 8 fn_), (xI m_sz cI 8 fz), (xI m_it cI 320 g_76), (xI m_mv cI 40 w_42)]) [0, 1, 2, 3, 4] (by decide +kernel) rfl, hS, (cp_d (a := (40 * j_5 + pa_34)) haf_0 (by omega) (e_75.trans (congrArg w_42 (nI_clamp (by omega)).symm)) hg_76), (cp_do (a := (40 * j_5 + pa_34)) (n := pb_27) haf_1 (by omega) (by omega) hg_76)⟩
                    · rintro w_63 H locs ls ⟨hl, hP, hD, hS, haf_0, haf_1⟩
                      refine lv_iload hx hb dX8_copy_154 (lv_at hl 0 rfl) ?_
                      refine lv_iload hx hb dX8_copy_156 (lv_at hl 6 rfl) ?_
                      refine lv_icmp_ge (tgt := 189) hx hb dX8_copy_158 (by decide) (fun _ => ?_) (fun c_ => absurd ((nI_leI (a := pb_27) (b := pb_27) (by omega) (by omega)).mpr (by omega)) c_)
                      refine lv_aload_n hx hb dX8_copy_189 rfl (lv_at hl 1 rfl) ?_
                      refine lv_iload hx hb dX8_copy_190 (lv_at hl 6 rfl) ?_
                      have hc_78 := cutW (wc := [(xo_8_rrriirrriiiiiiirrirrrrri mo m_la m_sz m_it ms mt m_st m_mv m_tp (nI mz) ml (nI mp) mk mv mb mw m_rd m_ac (nI ma) m_as m_wo m_ik m_ke m_tr (nI mx))]) hP hD hS hA [0] (by decide +kernel) rfl
                      refine va_calli (va_runV (As := [.int (nI pb_27)]) (rest := []) ⟨hx, hb, hml, hown, hts⟩ (r_X8_well l dC dI cI cZ cL cJ H.size mo m_la m_sz m_it m_st m_mv m_tp m_rd m_ac m_as m_wo m_ik m_ke m_tr ms mt ml mk mv mb mw mz mp ma mx (nI pb_27) ) (cwV 1 hts gX8_copy_X8_well rfl rfl rfl (by decide +kernel) ⟨Nat.le_of_ble_eq_true rfl, Nat.le_of_ble_eq_true rfl⟩) (pvW 8 0 hK hP rfl rfl hc_78) rfl rfl hl.1 rfl (lv_room (Nat.le_of_ble_eq_true rfl)) dX8_copy_192 ⟨Nat.le_of_ble_eq_true rfl, Nat.le_of_ble_eq_true rfl⟩) hS (fun q _ h => hc_78.2.2 q h) hc_78.2.2 (fun r_78 u_78 t_78 H1 locs ht hvm h_78 hB hz1 hk1 hS => ?_)
                      refine xl_1_3 hB (fun msn_78 hP1 hD1 hF_78_0 => ?_)
                      clear hB
                      rw [ht] at hP1
                      obtain ⟨hP, hD⟩ := va_join (wr := [(xI m_la cI 8 fn_), (xI m_sz cI 8 fz), (xI m_it cI 320 w_63), (xI m_mv cI 40 w_42)]) (w1 := [(xo_8_rrriirrriiiiiiirrirrrrri mo m_la m_sz m_it msn_78 mt m_st m_mv m_tp (nI mz) ml (nI mp) mk mv mb mw m_rd m_ac (nI ma) m_as m_wo m_ik m_ke m_tr (nI mx))]) hP hD [0] [1, 2, 3, 4] rfl rfl (by decide +kernel) (by decide +kernel) hk1 hc_78.2.2 hP1 hD1
                      generalize H1 = H at hP hS ⊢
                      have hP : va_P (dC, dI) vwCl [(xI m_la cI 8 fn_), (xI m_sz cI 8 fz), (xI m_it cI 320 w_63), (xI m_mv cI 40 w_42), (xo_8_rrriirrriiiiiiirrirrrrri mo m_la m_sz m_it msn_78 mt m_st m_mv m_tp (nI mz) ml (nI mp) mk mv mb mw m_rd m_ac (nI ma) m_as m_wo m_ik m_ke m_tr (nI mx))] H := hP
                      have hD := dto hP hD
                      have hX9 := cut2 (wc := [(xo_8_rrriirrriiiiiiirrirrrrri mo m_la m_sz m_it msn_78 mt m_st m_mv m_tp (nI mz) ml (nI mp) mk mv mb mw m_rd m_ac (nI ma) m_as m_wo m_ik m_ke m_tr (nI mx)), (xI m_la cI 8 fn_), (xI m_sz cI 8 fz), (xI m_it cI 320 w_63), (xI m_mv cI 40 w_42)]) hP hD [4, 0, 1, 2, 3] (by decide +kernel) rfl
                      exact W.iret (v := r_78) hx hb hr (fun t ht hW => ⟨⟨r_78, (), rfl, (lf_X8_copy_24 hsz9 hln9 hj_1 hj_5 hs_9 hq_9 hs_13 hq_13 e_17 e_18 c_19 c_20 e_23 f_24_1_0 hab_27 e_30 f_31_1_0 hab_34 eb_34 haf_m haf_0 haf_1 hF_78_0 h_78), ⟨w_63, w_42, msn_78, va_Ht ht hX9.1, hX9.2, (lf_X8_copy_22 hsz9 hln9 hj_1 hj_5 hs_9 hq_9 hs_13 hq_13 e_17 e_18 c_19 c_20 e_23 f_24_1_0 hab_27 e_30 f_31_1_0 hab_34 eb_34 haf_m haf_0 haf_1 hF_78_0 h_78), (lf_X8_copy_23 hsz9 hln9 hj_1 hj_5 hs_9 hq_9 hs_13 hq_13 e_17 e_18 c_19 c_20 e_23 f_24_1_0 hab_27 e_30 f_31_1_0 hab_34 eb_34 haf_m haf_0 haf_1 hF_78_0 h_78)⟩⟩, hS.F ht⟩) hS.2.2 dX8_copy_195
          · skip
            refine lv_aload_n hx hb dX8_copy_56 rfl (lv_at hl 0 rfl) ?_
            refine lv_iconst (v := 5) hx hb dX8_copy_57 (by decide) ?_
            have hc_79 := cutW (wc := [(xo_8_rrriirrriiiiiiirrirrrrri mo m_la m_sz m_it ms mt m_st m_mv m_tp (nI mz) ml (nI mp) mk mv mb mw m_rd m_ac (nI ma) m_as m_wo m_ik m_ke m_tr (nI mx))]) hP hD hS hA [0] (by decide +kernel) rfl
            refine va_calli (va_runV (As := [.int 5]) (rest := []) ⟨hx, hb, hml, hown, hts⟩ (r_X8_find l dC dI cI cZ cL cJ s.heap.size mo m_la m_sz m_it m_st m_mv m_tp m_rd m_ac m_as m_wo m_ik m_ke m_tr ms mt ml mk mv mb mw mz mp ma mx 5 ) (cwV 1 hts gX8_copy_X8_find rfl rfl rfl (by decide +kernel) ⟨Nat.le_of_ble_eq_true rfl, Nat.le_of_ble_eq_true rfl⟩) (pvW 8 0 hK hP rfl rfl hc_79) rfl rfl hl.1 rfl (lv_room (Nat.le_of_ble_eq_true rfl)) dX8_copy_58 ⟨Nat.le_of_ble_eq_true rfl, Nat.le_of_ble_eq_true rfl⟩) hS (fun q _ h => hc_79.2.2 q h) hc_79.2.2 (fun r_79 u_79 t_79 H1 locs ht hvm h_79 hB hz1 hk1 hS => ?_)
            refine xl_1_3 hB (fun msn_79 hP1 hD1 hF_79_0 => ?_)
            clear hB
            rw [ht] at hP1
            obtain ⟨hP, hD⟩ := va_join (wr := [(xI m_la cI 8 fn_), (xI m_sz cI 8 fz), (xI m_it cI 320 fi_), (xI m_mv cI 40 fm)]) (w1 := [(xo_8_rrriirrriiiiiiirrirrrrri mo m_la m_sz m_it msn_79 mt m_st m_mv m_tp (nI mz) ml (nI mp) mk mv mb mw m_rd m_ac (nI ma) m_as m_wo m_ik m_ke m_tr (nI mx))]) hP hD [0] [1, 2, 3, 4] rfl rfl (by decide +kernel) (by decide +kernel) hk1 hc_79.2.2 hP1 hD1
            generalize H1 = H at hP hS ⊢
            have hP : va_P (dC, dI) vwCl [(xI m_la cI 8 fn_), (xI m_sz cI 8 fz), (xI m_it cI 320 fi_), (xI m_mv cI 40 fm), (xo_8_rrriirrriiiiiiirrirrrrri mo m_la m_sz m_it msn_79 mt m_st m_mv m_tp (nI mz) ml (nI mp) mk mv mb mw m_rd m_ac (nI ma) m_as m_wo m_ik m_ke m_tr (nI mx))] H := hP
            have hD := dto hP hD
            have hX9 := cut2 (wc := [(xo_8_rrriirrriiiiiiirrirrrrri mo m_la m_sz m_it msn_79 mt m_st m_mv m_tp (nI mz) ml (nI mp) mk mv mb mw m_rd m_ac (nI ma) m_as m_wo m_ik m_ke m_tr (nI mx)), (xI m_la cI 8 fn_), (xI m_sz cI 8 fz), (xI m_it cI 320 fi_), (xI m_mv cI 40 fm)]) hP hD [4, 0, 1, 2, 3] (by decide +kernel) rfl
            exact W.iret (v := r_79) hx hb hr (fun t ht hW => ⟨⟨r_79, (), rfl, (lf_X8_copy_27 hsz9 hln9 hj_1 hj_5 hs_9 hq_9 hs_13 hq_13 e_17 e_18 c_19 hF_79_0 h_79), ⟨fi_, fm, msn_79, va_Ht ht hX9.1, hX9.2, (lf_X8_copy_25 hsz9 hln9 hj_1 hj_5 hs_9 hq_9 hs_13 hq_13 e_17 e_18 c_19 hF_79_0 h_79), (lf_X8_copy_26 hsz9 hln9 hj_1 hj_5 hs_9 hq_9 hs_13 hq_13 e_17 e_18 c_19 hF_79_0 h_79)⟩⟩, hS.F ht⟩) hS.2.2 dX8_copy_61
theorem lf_X8_drop_1 {fn_ : Nat → Int32} {fz : Nat → Int32} {a0 : Int32} (hsz9 : ∀ j : Nat, j < 8 → fz j = -1 ∨ ∃ q : Nat, q ≤ 40 ∧ fz j = nI q) (hln9 : ∀ j : Nat, j < 8 → ¬ fz j = -1 → ¬ fn_ j = -1) (f_1_0_0 : (a0 < 0 ∨ 8 ≤ a0)) : (∀ j : Nat, j < 8 → ¬ fz j = -1 → ¬ fn_ j = -1) := by
  first
  | with_reducible exact (fd_0 (by assumption)).symm
  | with_reducible exact yd_1 (by assumption) (by assumption) (by assumption)
  | with_reducible exact yd_2 hln9 (by assumption) (by assumption) (by assumption) (by assumption)
  | assumption
  | with_reducible exact (ar_drop_0 (by assumption)).symm
  | (subst_vars; with_reducible exact (am_drop_1 (by assumption) (by assumption)).symm)
  | (subst_vars; with_reducible exact (am_drop_2 hln9 (by assumption) (by assumption) (by assumption)).symm)
  | with_reducible exact (sd_l_0 (by assumption)).symm
  | with_reducible exact (sd_n_0 (by assumption)).symm
  | (subst_vars; with_reducible exact sm_l_1 (by assumption))
  | (subst_vars; with_reducible exact sm_n_1 (by assumption))
  | (subst_vars; with_reducible exact sm_l_2 (by assumption) (by assumption))
  | (subst_vars; with_reducible exact sm_n_2 (by assumption) (by assumption))
  | (subst_vars; with_reducible exact ln_dn hln9)
theorem lf_X8_drop_2 {fn_ : Nat → Int32} {fz : Nat → Int32} {a0 : Int32} (hsz9 : ∀ j : Nat, j < 8 → fz j = -1 ∨ ∃ q : Nat, q ≤ 40 ∧ fz j = nI q) (hln9 : ∀ j : Nat, j < 8 → ¬ fz j = -1 → ¬ fn_ j = -1) (f_1_0_0 : (a0 < 0 ∨ 8 ≤ a0)) : mbl fn_ fz = sd_l (mbl fn_ fz) a0 := by
  first
  | with_reducible exact (fd_0 (by assumption)).symm
  | with_reducible exact yd_1 (by assumption) (by assumption) (by assumption)
  | with_reducible exact yd_2 hln9 (by assumption) (by assumption) (by assumption) (by assumption)
  | assumption
  | with_reducible exact (ar_drop_0 (by assumption)).symm
  | (subst_vars; with_reducible exact (am_drop_1 (by assumption) (by assumption)).symm)
  | (subst_vars; with_reducible exact (am_drop_2 hln9 (by assumption) (by assumption) (by assumption)).symm)
  | with_reducible exact (sd_l_0 (by assumption)).symm
  | with_reducible exact (sd_n_0 (by assumption)).symm
  | (subst_vars; with_reducible exact sm_l_1 (by assumption))
  | (subst_vars; with_reducible exact sm_n_1 (by assumption))
  | (subst_vars; with_reducible exact sm_l_2 (by assumption) (by assumption))
  | (subst_vars; with_reducible exact sm_n_2 (by assumption) (by assumption))
  | (subst_vars; with_reducible exact ln_dn hln9)
theorem lf_X8_drop_3 {fn_ : Nat → Int32} {fz : Nat → Int32} {a0 : Int32} (hsz9 : ∀ j : Nat, j < 8 → fz j = -1 ∨ ∃ q : Nat, q ≤ 40 ∧ fz j = nI q) (hln9 : ∀ j : Nat, j < 8 → ¬ fz j = -1 → ¬ fn_ j = -1) (f_1_0_0 : (a0 < 0 ∨ 8 ≤ a0)) : mbn fz = sd_n (mbn fz) a0 := by
  first
  | with_reducible exact (fd_0 (by assumption)).symm
  | with_reducible exact yd_1 (by assumption) (by assumption) (by assumption)
  | with_reducible exact yd_2 hln9 (by assumption) (by assumption) (by assumption) (by assumption)
  | assumption
  | with_reducible exact (ar_drop_0 (by assumption)).symm
  | (subst_vars; with_reducible exact (am_drop_1 (by assumption) (by assumption)).symm)
  | (subst_vars; with_reducible exact (am_drop_2 hln9 (by assumption) (by assumption) (by assumption)).symm)
  | with_reducible exact (sd_l_0 (by assumption)).symm
  | with_reducible exact (sd_n_0 (by assumption)).symm
  | (subst_vars; with_reducible exact sm_l_1 (by assumption))
  | (subst_vars; with_reducible exact sm_n_1 (by assumption))
  | (subst_vars; with_reducible exact sm_l_2 (by assumption) (by assumption))
  | (subst_vars; with_reducible exact sm_n_2 (by assumption) (by assumption))
  | (subst_vars; with_reducible exact ln_dn hln9)
theorem lf_X8_drop_4 {ms : Int32} {fn_ : Nat → Int32} {fz : Nat → Int32} {a0 : Int32} (hsz9 : ∀ j : Nat, j < 8 → fz j = -1 ∨ ∃ q : Nat, q ≤ 40 ∧ fz j = nI q) (hln9 : ∀ j : Nat, j < 8 → ¬ fz j = -1 → ¬ fn_ j = -1) (f_1_0_0 : (a0 < 0 ∨ 8 ≤ a0)) : ms = f_drop (mbl fn_ fz) a0 ms := by
  first
  | with_reducible exact (fd_0 (by assumption)).symm
  | with_reducible exact yd_1 (by assumption) (by assumption) (by assumption)
  | with_reducible exact yd_2 hln9 (by assumption) (by assumption) (by assumption) (by assumption)
  | assumption
  | with_reducible exact (ar_drop_0 (by assumption)).symm
  | (subst_vars; with_reducible exact (am_drop_1 (by assumption) (by assumption)).symm)
  | (subst_vars; with_reducible exact (am_drop_2 hln9 (by assumption) (by assumption) (by assumption)).symm)
  | with_reducible exact (sd_l_0 (by assumption)).symm
  | with_reducible exact (sd_n_0 (by assumption)).symm
  | (subst_vars; with_reducible exact sm_l_1 (by assumption))
  | (subst_vars; with_reducible exact sm_n_1 (by assumption))
  | (subst_vars; with_reducible exact sm_l_2 (by assumption) (by assumption))
  | (subst_vars; with_reducible exact sm_n_2 (by assumption) (by assumption))
  | (subst_vars; with_reducible exact ln_dn hln9)
theorem lf_X8_drop_5 {fn_ : Nat → Int32} {fz : Nat → Int32} {a0 : Int32} (hsz9 : ∀ j : Nat, j < 8 → fz j = -1 ∨ ∃ q : Nat, q ≤ 40 ∧ fz j = nI q) (hln9 : ∀ j : Nat, j < 8 → ¬ fz j = -1 → ¬ fn_ j = -1) (f_1_0_0 : (a0 < 0 ∨ 8 ≤ a0)) : (-1000001) = (ar_drop (mbl fn_ fz) (mbn fz) a0) := by
  first
  | with_reducible exact (fd_0 (by assumption)).symm
  | with_reducible exact yd_1 (by assumption) (by assumption) (by assumption)
  | with_reducible exact yd_2 hln9 (by assumption) (by assumption) (by assumption) (by assumption)
  | assumption
  | with_reducible exact (ar_drop_0 (by assumption)).symm
  | (subst_vars; with_reducible exact (am_drop_1 (by assumption) (by assumption)).symm)
  | (subst_vars; with_reducible exact (am_drop_2 hln9 (by assumption) (by assumption) (by assumption)).symm)
  | with_reducible exact (sd_l_0 (by assumption)).symm
  | with_reducible exact (sd_n_0 (by assumption)).symm
  | (subst_vars; with_reducible exact sm_l_1 (by assumption))
  | (subst_vars; with_reducible exact sm_n_1 (by assumption))
  | (subst_vars; with_reducible exact sm_l_2 (by assumption) (by assumption))
  | (subst_vars; with_reducible exact sm_n_2 (by assumption) (by assumption))
  | (subst_vars; with_reducible exact ln_dn hln9)
theorem lf_X8_drop_6 {fn_ : Nat → Int32} {fz : Nat → Int32} {j_1 : Nat} {msn_7 : Int32} {r_7 : Int32} (hsz9 : ∀ j : Nat, j < 8 → fz j = -1 ∨ ∃ q : Nat, q ≤ 40 ∧ fz j = nI q) (hln9 : ∀ j : Nat, j < 8 → ¬ fz j = -1 → ¬ fn_ j = -1) (hj_1 : j_1 < 8) (hs_5 : fz j_1 = -1) (hF_7_0 : (msn_7 : Int32) = 1) (h_7 : r_7 = (-1000010 - 1)) : (∀ j : Nat, j < 8 → ¬ fz j = -1 → ¬ fn_ j = -1) := by
  first
  | with_reducible exact (fd_0 (by assumption)).symm
  | with_reducible exact yd_1 (by assumption) (by assumption) (by assumption)
  | with_reducible exact yd_2 hln9 (by assumption) (by assumption) (by assumption) (by assumption)
  | assumption
  | with_reducible exact (ar_drop_0 (by assumption)).symm
  | (subst_vars; with_reducible exact (am_drop_1 (by assumption) (by assumption)).symm)
  | (subst_vars; with_reducible exact (am_drop_2 hln9 (by assumption) (by assumption) (by assumption)).symm)
  | with_reducible exact (sd_l_0 (by assumption)).symm
  | with_reducible exact (sd_n_0 (by assumption)).symm
  | (subst_vars; with_reducible exact sm_l_1 (by assumption))
  | (subst_vars; with_reducible exact sm_n_1 (by assumption))
  | (subst_vars; with_reducible exact sm_l_2 (by assumption) (by assumption))
  | (subst_vars; with_reducible exact sm_n_2 (by assumption) (by assumption))
  | (subst_vars; with_reducible exact ln_dn hln9)
theorem lf_X8_drop_7 {fn_ : Nat → Int32} {fz : Nat → Int32} {j_1 : Nat} {msn_7 : Int32} {r_7 : Int32} (hsz9 : ∀ j : Nat, j < 8 → fz j = -1 ∨ ∃ q : Nat, q ≤ 40 ∧ fz j = nI q) (hln9 : ∀ j : Nat, j < 8 → ¬ fz j = -1 → ¬ fn_ j = -1) (hj_1 : j_1 < 8) (hs_5 : fz j_1 = -1) (hF_7_0 : (msn_7 : Int32) = 1) (h_7 : r_7 = (-1000010 - 1)) : mbl fn_ fz = sd_l (mbl fn_ fz) (nI j_1) := by
  first
  | with_reducible exact (fd_0 (by assumption)).symm
  | with_reducible exact yd_1 (by assumption) (by assumption) (by assumption)
  | with_reducible exact yd_2 hln9 (by assumption) (by assumption) (by assumption) (by assumption)
  | assumption
  | with_reducible exact (ar_drop_0 (by assumption)).symm
  | (subst_vars; with_reducible exact (am_drop_1 (by assumption) (by assumption)).symm)
  | (subst_vars; with_reducible exact (am_drop_2 hln9 (by assumption) (by assumption) (by assumption)).symm)
  | with_reducible exact (sd_l_0 (by assumption)).symm
  | with_reducible exact (sd_n_0 (by assumption)).symm
  | (subst_vars; with_reducible exact sm_l_1 (by assumption))
  | (subst_vars; with_reducible exact sm_n_1 (by assumption))
  | (subst_vars; with_reducible exact sm_l_2 (by assumption) (by assumption))
  | (subst_vars; with_reducible exact sm_n_2 (by assumption) (by assumption))
  | (subst_vars; with_reducible exact ln_dn hln9)
theorem lf_X8_drop_8 {fn_ : Nat → Int32} {fz : Nat → Int32} {j_1 : Nat} {msn_7 : Int32} {r_7 : Int32} (hsz9 : ∀ j : Nat, j < 8 → fz j = -1 ∨ ∃ q : Nat, q ≤ 40 ∧ fz j = nI q) (hln9 : ∀ j : Nat, j < 8 → ¬ fz j = -1 → ¬ fn_ j = -1) (hj_1 : j_1 < 8) (hs_5 : fz j_1 = -1) (hF_7_0 : (msn_7 : Int32) = 1) (h_7 : r_7 = (-1000010 - 1)) : mbn fz = sd_n (mbn fz) (nI j_1) := by
  first
  | with_reducible exact (fd_0 (by assumption)).symm
  | with_reducible exact yd_1 (by assumption) (by assumption) (by assumption)
  | with_reducible exact yd_2 hln9 (by assumption) (by assumption) (by assumption) (by assumption)
  | assumption
  | with_reducible exact (ar_drop_0 (by assumption)).symm
  | (subst_vars; with_reducible exact (am_drop_1 (by assumption) (by assumption)).symm)
  | (subst_vars; with_reducible exact (am_drop_2 hln9 (by assumption) (by assumption) (by assumption)).symm)
  | with_reducible exact (sd_l_0 (by assumption)).symm
  | with_reducible exact (sd_n_0 (by assumption)).symm
  | (subst_vars; with_reducible exact sm_l_1 (by assumption))
  | (subst_vars; with_reducible exact sm_n_1 (by assumption))
  | (subst_vars; with_reducible exact sm_l_2 (by assumption) (by assumption))
  | (subst_vars; with_reducible exact sm_n_2 (by assumption) (by assumption))
  | (subst_vars; with_reducible exact ln_dn hln9)
theorem lf_X8_drop_9 {ms : Int32} {fn_ : Nat → Int32} {fz : Nat → Int32} {j_1 : Nat} {msn_7 : Int32} {r_7 : Int32} (hsz9 : ∀ j : Nat, j < 8 → fz j = -1 ∨ ∃ q : Nat, q ≤ 40 ∧ fz j = nI q) (hln9 : ∀ j : Nat, j < 8 → ¬ fz j = -1 → ¬ fn_ j = -1) (hj_1 : j_1 < 8) (hs_5 : fz j_1 = -1) (hF_7_0 : (msn_7 : Int32) = 1) (h_7 : r_7 = (-1000010 - 1)) : msn_7 = f_drop (mbl fn_ fz) (nI j_1) ms := by
  first
  | with_reducible exact (fd_0 (by assumption)).symm
  | with_reducible exact yd_1 (by assumption) (by assumption) (by assumption)
  | with_reducible exact yd_2 hln9 (by assumption) (by assumption) (by assumption) (by assumption)
  | assumption
  | with_reducible exact (ar_drop_0 (by assumption)).symm
  | (subst_vars; with_reducible exact (am_drop_1 (by assumption) (by assumption)).symm)
  | (subst_vars; with_reducible exact (am_drop_2 hln9 (by assumption) (by assumption) (by assumption)).symm)
  | with_reducible exact (sd_l_0 (by assumption)).symm
  | with_reducible exact (sd_n_0 (by assumption)).symm
  | (subst_vars; with_reducible exact sm_l_1 (by assumption))
  | (subst_vars; with_reducible exact sm_n_1 (by assumption))
  | (subst_vars; with_reducible exact sm_l_2 (by assumption) (by assumption))
  | (subst_vars; with_reducible exact sm_n_2 (by assumption) (by assumption))
  | (subst_vars; with_reducible exact ln_dn hln9)
theorem lf_X8_drop_10 {fn_ : Nat → Int32} {fz : Nat → Int32} {j_1 : Nat} {msn_7 : Int32} {r_7 : Int32} (hsz9 : ∀ j : Nat, j < 8 → fz j = -1 ∨ ∃ q : Nat, q ≤ 40 ∧ fz j = nI q) (hln9 : ∀ j : Nat, j < 8 → ¬ fz j = -1 → ¬ fn_ j = -1) (hj_1 : j_1 < 8) (hs_5 : fz j_1 = -1) (hF_7_0 : (msn_7 : Int32) = 1) (h_7 : r_7 = (-1000010 - 1)) : r_7 = (ar_drop (mbl fn_ fz) (mbn fz) (nI j_1)) := by
  first
  | with_reducible exact (fd_0 (by assumption)).symm
  | with_reducible exact yd_1 (by assumption) (by assumption) (by assumption)
  | with_reducible exact yd_2 hln9 (by assumption) (by assumption) (by assumption) (by assumption)
  | assumption
  | with_reducible exact (ar_drop_0 (by assumption)).symm
  | (subst_vars; with_reducible exact (am_drop_1 (by assumption) (by assumption)).symm)
  | (subst_vars; with_reducible exact (am_drop_2 hln9 (by assumption) (by assumption) (by assumption)).symm)
  | with_reducible exact (sd_l_0 (by assumption)).symm
  | with_reducible exact (sd_n_0 (by assumption)).symm
  | (subst_vars; with_reducible exact sm_l_1 (by assumption))
  | (subst_vars; with_reducible exact sm_n_1 (by assumption))
  | (subst_vars; with_reducible exact sm_l_2 (by assumption) (by assumption))
  | (subst_vars; with_reducible exact sm_n_2 (by assumption) (by assumption))
  | (subst_vars; with_reducible exact ln_dn hln9)
theorem lf_X8_drop_11 {fn_ : Nat → Int32} {fz : Nat → Int32} {j_1 : Nat} {q_5 : Nat} {g_10 : Nat → Int32} {msn_11 : Int32} {r_11 : Int32} (hsz9 : ∀ j : Nat, j < 8 → fz j = -1 ∨ ∃ q : Nat, q ≤ 40 ∧ fz j = nI q) (hln9 : ∀ j : Nat, j < 8 → ¬ fz j = -1 → ¬ fn_ j = -1) (hj_1 : j_1 < 8) (hs_5 : fz j_1 = nI q_5) (hq_5 : q_5 ≤ 40) (hu_10 : g_10 = upd fz j_1 (-1)) (hF_11_0 : (msn_11 : Int32) = 0) (h_11 : r_11 = (nI q_5)) : (∀ j : Nat, j < 8 → ¬ g_10 j = -1 → ¬ fn_ j = -1) := by
  first
  | with_reducible exact (fd_0 (by assumption)).symm
  | with_reducible exact yd_1 (by assumption) (by assumption) (by assumption)
  | with_reducible exact yd_2 hln9 (by assumption) (by assumption) (by assumption) (by assumption)
  | assumption
  | with_reducible exact (ar_drop_0 (by assumption)).symm
  | (subst_vars; with_reducible exact (am_drop_1 (by assumption) (by assumption)).symm)
  | (subst_vars; with_reducible exact (am_drop_2 hln9 (by assumption) (by assumption) (by assumption)).symm)
  | with_reducible exact (sd_l_0 (by assumption)).symm
  | with_reducible exact (sd_n_0 (by assumption)).symm
  | (subst_vars; with_reducible exact sm_l_1 (by assumption))
  | (subst_vars; with_reducible exact sm_n_1 (by assumption))
  | (subst_vars; with_reducible exact sm_l_2 (by assumption) (by assumption))
  | (subst_vars; with_reducible exact sm_n_2 (by assumption) (by assumption))
  | (subst_vars; with_reducible exact ln_dn hln9)
theorem lf_X8_drop_12 {fn_ : Nat → Int32} {fz : Nat → Int32} {j_1 : Nat} {q_5 : Nat} {g_10 : Nat → Int32} {msn_11 : Int32} {r_11 : Int32} (hsz9 : ∀ j : Nat, j < 8 → fz j = -1 ∨ ∃ q : Nat, q ≤ 40 ∧ fz j = nI q) (hln9 : ∀ j : Nat, j < 8 → ¬ fz j = -1 → ¬ fn_ j = -1) (hj_1 : j_1 < 8) (hs_5 : fz j_1 = nI q_5) (hq_5 : q_5 ≤ 40) (hu_10 : g_10 = upd fz j_1 (-1)) (hF_11_0 : (msn_11 : Int32) = 0) (h_11 : r_11 = (nI q_5)) : mbl fn_ g_10 = sd_l (mbl fn_ fz) (nI j_1) := by
  first
  | with_reducible exact (fd_0 (by assumption)).symm
  | with_reducible exact yd_1 (by assumption) (by assumption) (by assumption)
  | with_reducible exact yd_2 hln9 (by assumption) (by assumption) (by assumption) (by assumption)
  | assumption
  | with_reducible exact (ar_drop_0 (by assumption)).symm
  | (subst_vars; with_reducible exact (am_drop_1 (by assumption) (by assumption)).symm)
  | (subst_vars; with_reducible exact (am_drop_2 hln9 (by assumption) (by assumption) (by assumption)).symm)
  | with_reducible exact (sd_l_0 (by assumption)).symm
  | with_reducible exact (sd_n_0 (by assumption)).symm
  | (subst_vars; with_reducible exact sm_l_1 (by assumption))
  | (subst_vars; with_reducible exact sm_n_1 (by assumption))
  | (subst_vars; with_reducible exact sm_l_2 (by assumption) (by assumption))
  | (subst_vars; with_reducible exact sm_n_2 (by assumption) (by assumption))
  | (subst_vars; with_reducible exact ln_dn hln9)
theorem lf_X8_drop_13 {fn_ : Nat → Int32} {fz : Nat → Int32} {j_1 : Nat} {q_5 : Nat} {g_10 : Nat → Int32} {msn_11 : Int32} {r_11 : Int32} (hsz9 : ∀ j : Nat, j < 8 → fz j = -1 ∨ ∃ q : Nat, q ≤ 40 ∧ fz j = nI q) (hln9 : ∀ j : Nat, j < 8 → ¬ fz j = -1 → ¬ fn_ j = -1) (hj_1 : j_1 < 8) (hs_5 : fz j_1 = nI q_5) (hq_5 : q_5 ≤ 40) (hu_10 : g_10 = upd fz j_1 (-1)) (hF_11_0 : (msn_11 : Int32) = 0) (h_11 : r_11 = (nI q_5)) : mbn g_10 = sd_n (mbn fz) (nI j_1) := by
  first
  | with_reducible exact (fd_0 (by assumption)).symm
  | with_reducible exact yd_1 (by assumption) (by assumption) (by assumption)
  | with_reducible exact yd_2 hln9 (by assumption) (by assumption) (by assumption) (by assumption)
  | assumption
  | with_reducible exact (ar_drop_0 (by assumption)).symm
  | (subst_vars; with_reducible exact (am_drop_1 (by assumption) (by assumption)).symm)
  | (subst_vars; with_reducible exact (am_drop_2 hln9 (by assumption) (by assumption) (by assumption)).symm)
  | with_reducible exact (sd_l_0 (by assumption)).symm
  | with_reducible exact (sd_n_0 (by assumption)).symm
  | (subst_vars; with_reducible exact sm_l_1 (by assumption))
  | (subst_vars; with_reducible exact sm_n_1 (by assumption))
  | (subst_vars; with_reducible exact sm_l_2 (by assumption) (by assumption))
  | (subst_vars; with_reducible exact sm_n_2 (by assumption) (by assumption))
  | (subst_vars; with_reducible exact ln_dn hln9)
theorem lf_X8_drop_14 {ms : Int32} {fn_ : Nat → Int32} {fz : Nat → Int32} {j_1 : Nat} {q_5 : Nat} {g_10 : Nat → Int32} {msn_11 : Int32} {r_11 : Int32} (hsz9 : ∀ j : Nat, j < 8 → fz j = -1 ∨ ∃ q : Nat, q ≤ 40 ∧ fz j = nI q) (hln9 : ∀ j : Nat, j < 8 → ¬ fz j = -1 → ¬ fn_ j = -1) (hj_1 : j_1 < 8) (hs_5 : fz j_1 = nI q_5) (hq_5 : q_5 ≤ 40) (hu_10 : g_10 = upd fz j_1 (-1)) (hF_11_0 : (msn_11 : Int32) = 0) (h_11 : r_11 = (nI q_5)) : msn_11 = f_drop (mbl fn_ fz) (nI j_1) ms := by
  first
  | with_reducible exact (fd_0 (by assumption)).symm
  | with_reducible exact yd_1 (by assumption) (by assumption) (by assumption)
  | with_reducible exact yd_2 hln9 (by assumption) (by assumption) (by assumption) (by assumption)
  | assumption
  | with_reducible exact (ar_drop_0 (by assumption)).symm
  | (subst_vars; with_reducible exact (am_drop_1 (by assumption) (by assumption)).symm)
  | (subst_vars; with_reducible exact (am_drop_2 hln9 (by assumption) (by assumption) (by assumption)).symm)
  | with_reducible exact (sd_l_0 (by assumption)).symm
  | with_reducible exact (sd_n_0 (by assumption)).symm
  | (subst_vars; with_reducible exact sm_l_1 (by assumption))
  | (subst_vars; with_reducible exact sm_n_1 (by assumption))
  | (subst_vars; with_reducible exact sm_l_2 (by assumption) (by assumption))
  | (subst_vars; with_reducible exact sm_n_2 (by assumption) (by assumption))
  | (subst_vars; with_reducible exact ln_dn hln9)
theorem lf_X8_drop_15 {fn_ : Nat → Int32} {fz : Nat → Int32} {j_1 : Nat} {q_5 : Nat} {g_10 : Nat → Int32} {msn_11 : Int32} {r_11 : Int32} (hsz9 : ∀ j : Nat, j < 8 → fz j = -1 ∨ ∃ q : Nat, q ≤ 40 ∧ fz j = nI q) (hln9 : ∀ j : Nat, j < 8 → ¬ fz j = -1 → ¬ fn_ j = -1) (hj_1 : j_1 < 8) (hs_5 : fz j_1 = nI q_5) (hq_5 : q_5 ≤ 40) (hu_10 : g_10 = upd fz j_1 (-1)) (hF_11_0 : (msn_11 : Int32) = 0) (h_11 : r_11 = (nI q_5)) : r_11 = (ar_drop (mbl fn_ fz) (mbn fz) (nI j_1)) := by
  first
  | with_reducible exact (fd_0 (by assumption)).symm
  | with_reducible exact yd_1 (by assumption) (by assumption) (by assumption)
  | with_reducible exact yd_2 hln9 (by assumption) (by assumption) (by assumption) (by assumption)
  | assumption
  | with_reducible exact (ar_drop_0 (by assumption)).symm
  | (subst_vars; with_reducible exact (am_drop_1 (by assumption) (by assumption)).symm)
  | (subst_vars; with_reducible exact (am_drop_2 hln9 (by assumption) (by assumption) (by assumption)).symm)
  | with_reducible exact (sd_l_0 (by assumption)).symm
  | with_reducible exact (sd_n_0 (by assumption)).symm
  | (subst_vars; with_reducible exact sm_l_1 (by assumption))
  | (subst_vars; with_reducible exact sm_n_1 (by assumption))
  | (subst_vars; with_reducible exact sm_l_2 (by assumption) (by assumption))
  | (subst_vars; with_reducible exact sm_n_2 (by assumption) (by assumption))
  | (subst_vars; with_reducible exact ln_dn hln9)
set_option maxHeartbeats 4000000 in
set_option maxRecDepth 100000 in
theorem r_X8_drop (l : Launch) (dC : Nat → ClassId) (dI : Nat → Nat → Nat) (cI cZ cL cJ : ClassId) (sz : Nat) (mo : Nat) (m_la : Nat) (m_sz : Nat) (m_it : Nat) (m_st : Nat) (m_mv : Nat) (m_tp : Nat) (m_rd : Nat) (m_ac : Nat) (m_as : Nat) (m_wo : Nat) (m_ik : Nat) (m_ke : Nat) (m_tr : Nat) (ms : Int32) (mt : Int32) (ml : Int32) (mk : Int32) (mv : Int32) (mb : Int32) (mw : Int32) (mz : Nat) (mp : Nat) (ma : Nat) (mx : Nat) (fn_ : Nat → Int32) (fz : Nat → Int32) (a0 : Int32) (hsz9 : ∀ j : Nat, j < 8 → fz j = -1 ∨ ∃ q : Nat, q ≤ 40 ∧ fz j = nI q) (hln9 : ∀ j : Nat, j < 8 → ¬ fz j = -1 → ¬ fn_ j = -1) : Met l yX8_drop wsX8_drop ({ frames := 2, cells := 0, slots := 0, locals := 45 }) (va_Pc [.ref mo, .int a0] (fun U => U.heap.size = sz ∧ va_P (dC, dI) vwCl [(xo_8_rrriirrriiiiiiirrirrrrri mo m_la m_sz m_it ms mt m_st m_mv m_tp (nI mz) ml (nI mp) mk mv mb mw m_rd m_ac (nI ma) m_as m_wo m_ik m_ke m_tr (nI mx)), (xI m_la cI 8 fn_), (xI m_sz cI 8 fz)] U.heap ∧ va_K (dC, dI) vwCl [(cI, .int), (cZ, .boolean), (cL, .object RX3), (cJ, .array .int)] U ∧ va_D (fun _ => True) [(xo_8_rrriirrriiiiiiirrirrrrri mo m_la m_sz m_it ms mt m_st m_mv m_tp (nI mz) ml (nI mp) mk mv mb mw m_rd m_ac (nI ma) m_as m_wo m_ik m_ke m_tr (nI mx)), (xI m_la cI 8 fn_), (xI m_sz cI 8 fz)])) (va_Qi (fun r (_ : Unit) => r = (ar_drop (mbl fn_ fz) (mbn fz) a0)) (fun (_ : Unit) t => ∃ (fzn : Nat → Int32) (msn : Int32), va_P (dC, dI) vwCl [(xo_8_rrriirrriiiiiiirrirrrrri mo m_la m_sz m_it msn mt m_st m_mv m_tp (nI mz) ml (nI mp) mk mv mb mw m_rd m_ac (nI ma) m_as m_wo m_ik m_ke m_tr (nI mx)), (xI m_la cI 8 fn_), (xI m_sz cI 8 fzn)] t.heap ∧ va_D (va_A [(xo_8_rrriirrriiiiiiirrirrrrri mo m_la m_sz m_it ms mt m_st m_mv m_tp (nI mz) ml (nI mp) mk mv mb mw m_rd m_ac (nI ma) m_as m_wo m_ik m_ke m_tr (nI mx)), (xI m_la cI 8 fn_), (xI m_sz cI 8 fz)] sz) [(xo_8_rrriirrriiiiiiirrirrrrri mo m_la m_sz m_it msn mt m_st m_mv m_tp (nI mz) ml (nI mp) mk mv mb mw m_rd m_ac (nI ma) m_as m_wo m_ik m_ke m_tr (nI mx)), (xI m_la cI 8 fn_), (xI m_sz cI 8 fzn)] ∧ (∀ j : Nat, j < 8 → fzn j = -1 ∨ ∃ q : Nat, q ≤ 40 ∧ fzn j = nI q) ∧ (∀ j : Nat, j < 8 → ¬ fzn j = -1 → ¬ fn_ j = -1) ∧ mbl fn_ fzn = sd_l (mbl fn_ fz) a0 ∧ mbn fzn = sd_n (mbn fz) a0 ∧ msn = f_drop (mbl fn_ fz) a0 ms) (va_A [(xo_8_rrriirrriiiiiiirrirrrrri mo m_la m_sz m_it ms mt m_st m_mv m_tp (nI mz) ml (nI mp) mk mv mb mw m_rd m_ac (nI ma) m_as m_wo m_ik m_ke m_tr (nI mx)), (xI m_la cI 8 fn_), (xI m_sz cI 8 fz)] sz)) 0 0 (va_A [(xo_8_rrriirrriiiiiiirrirrrrri mo m_la m_sz m_it ms mt m_st m_mv m_tp (nI mz) ml (nI mp) mk mv mb mw m_rd m_ac (nI ma) m_as m_wo m_ik m_ke m_tr (nI mx)), (xI m_la cI 8 fn_), (xI m_sz cI 8 fz)] sz) := by
  refine Met.ofW (cc := cX8_drop) (maxL := 3) (ret := (some .int)) (by decide) rfl ?_
  intro p e s m args below meth c s₁ B hml hv
  obtain ⟨rfl, hsz, hP, hK, hD0⟩ := hv
  have hx := B.exec
  have hb := B.bytes
  have hr := B.returns
  have hts := atoms_spec (ws := wsX8_drop) B.pre
  have hown : s.vm.findClass RX8 = some m.cls := findClass_of_methodNamed B.named
  have hlocks := B.notSynchronized
  subst hsz
  have hD := hD0.self (sz := s.heap.size)
  generalize hAe : va_A [(xo_8_rrriirrriiiiiiirrirrrrri mo m_la m_sz m_it ms mt m_st m_mv m_tp (nI mz) ml (nI mp) mk mv mb mw m_rd m_ac (nI ma) m_as m_wo m_ik m_ke m_tr (nI mx)), (xI m_la cI 8 fn_), (xI m_sz cI 8 fz)] s.heap.size = A at hD ⊢
  have hA : ∀ q : Nat, s.heap.size ≤ q → A q := fun q h => by rw [← hAe]; exact Or.inr h
  have hS : va_S A s.heap s.heap [] := va_S.rf
  have hP : va_P (dC, dI) vwCl [(xo_8_rrriirrriiiiiiirrirrrrri mo m_la m_sz m_it ms mt m_st m_mv m_tp (nI mz) ml (nI mp) mk mv mb mw m_rd m_ac (nI ma) m_as m_wo m_ik m_ke m_tr (nI mx)), (xI m_la cI 8 fn_), (xI m_sz cI 8 fz)] s.heap := hP
  have hl := lv_entry ([.ref mo, .int a0]) (n := 3) (Nat.le_of_ble_eq_true rfl)
  rw [lg_entry_eq]
  generalize (lg_sl ([.ref mo, .int a0]) ++ List.replicate (3 - (lg_sl ([.ref mo, .int a0])).length) Slot.unset).toArray = ls at hl ⊢
  have hl : lv_has ls 3 [(0, .ref mo), (1, .int a0)] := hl
  refine lv_iload_n hx hb dX8_drop_0 rfl (lv_at hl 1 rfl) ?_
  have hPc_1 := hP.sub (ws' := []) [] rfl
  refine vp_callSi (W.runS (As := [.int a0]) (rest := []) ⟨hx, hb, hml, hown, hts⟩ (r_X8_isRow l dC dI cI cZ cL cJ a0 ) (va_cwS 1 hts gX8_drop_X8_isRow rfl rfl rfl (by decide +kernel) ⟨Nat.le_of_ble_eq_true rfl, Nat.le_of_ble_eq_true rfl⟩) (psP hK hPc_1) rfl rfl hl.1 rfl (lv_room (Nat.le_of_ble_eq_true rfl)) dX8_drop_1 ⟨Nat.le_of_ble_eq_true rfl, Nat.le_of_ble_eq_true rfl⟩) (fun r_1 h_1 => ?_)
  rcases h_1 with ⟨h_1, f_1_0_0⟩ | ⟨h_1, f_1_1_0⟩
  · subst h_1
    refine lv_if_ne (tgt := 10) hx hb dX8_drop_4 (by decide) (fun c_ => absurd (by decide) c_) (fun _ => ?_)
    refine lv_ldc (own := RX8) (v := (-1000001)) hx hb hown (hts _ mx_X8_drop_1) dX8_drop_7 ?_
    have hX9 := cut2 (wc := [(xo_8_rrriirrriiiiiiirrirrrrri mo m_la m_sz m_it ms mt m_st m_mv m_tp (nI mz) ml (nI mp) mk mv mb mw m_rd m_ac (nI ma) m_as m_wo m_ik m_ke m_tr (nI mx)), (xI m_la cI 8 fn_), (xI m_sz cI 8 fz)]) hP hD [0, 1, 2] (by decide +kernel) rfl
    exact W.iret (v := (-1000001)) hx hb hr (fun t ht hW => ⟨⟨(-1000001), (), rfl, (lf_X8_drop_5 hsz9 hln9 f_1_0_0), ⟨fz, ms, va_Ht ht hX9.1, hX9.2, hsz9, (lf_X8_drop_1 hsz9 hln9 f_1_0_0), (lf_X8_drop_2 hsz9 hln9 f_1_0_0), (lf_X8_drop_3 hsz9 hln9 f_1_0_0), (lf_X8_drop_4 hsz9 hln9 f_1_0_0)⟩⟩, hS.F ht⟩) hS.2.2 dX8_drop_9
  · subst h_1
    obtain ⟨j_1, hj_1, rfl⟩ := vp_in_of f_1_1_0 (by omega)
    refine lv_if_ne (tgt := 10) hx hb dX8_drop_4 (by decide) (fun _ => ?_) (fun c_ => absurd c_ (by decide))
    refine lv_aload_n hx hb dX8_drop_10 rfl (lv_at hl 0 rfl) ?_
    refine va_get (D := (dC, dI)) (ci := 8) (v := .ref m_sz) (C := RX8) (T := TX8) (N := 24) hx hb hts i_X8_drop_X8 hown hK hP 0 rfl rfl 1 (by decide) (hts _ mx_X8_drop_2) (fun _ h9 => h9) rfl dX8_drop_11 ?_
    refine lv_iload_n hx hb dX8_drop_14 rfl (lv_at hl 1 rfl) ?_
    refine va_iald hx hb hK hP 2 0 rfl rfl (vp_in_nI (by omega) (by omega)) dX8_drop_15 ?_
    refine lv_topi (fun v_5 e_5 => ?_)
    rw [nI_clamp (by omega)] at e_5
    rcases hsz9 j_1 (by omega) with hs_5 | ⟨q_5, hq_5, hs_5⟩
    · obtain rfl : v_5 = -1 := e_5.trans hs_5
      refine lv_if_ge (tgt := 25) hx hb dX8_drop_16 (by decide) (fun c_ => absurd c_ (by decide)) (fun _ => ?_)
      refine lv_aload_n hx hb dX8_drop_19 rfl (lv_at hl 0 rfl) ?_
      refine lv_iconst (v := 1) hx hb dX8_drop_20 (by decide) ?_
      have hc_7 := cutW (wc := [(xo_8_rrriirrriiiiiiirrirrrrri mo m_la m_sz m_it ms mt m_st m_mv m_tp (nI mz) ml (nI mp) mk mv mb mw m_rd m_ac (nI ma) m_as m_wo m_ik m_ke m_tr (nI mx))]) hP hD hS hA [0] (by decide +kernel) rfl
      refine va_calli (va_runV (As := [.int 1]) (rest := []) ⟨hx, hb, hml, hown, hts⟩ (r_X8_find l dC dI cI cZ cL cJ s.heap.size mo m_la m_sz m_it m_st m_mv m_tp m_rd m_ac m_as m_wo m_ik m_ke m_tr ms mt ml mk mv mb mw mz mp ma mx 1 ) (cwV 1 hts gX8_drop_X8_find rfl rfl rfl (by decide +kernel) ⟨Nat.le_of_ble_eq_true rfl, Nat.le_of_ble_eq_true rfl⟩) (pvW 8 0 hK hP rfl rfl hc_7) rfl rfl hl.1 rfl (lv_room (Nat.le_of_ble_eq_true rfl)) dX8_drop_21 ⟨Nat.le_of_ble_eq_true rfl, Nat.le_of_ble_eq_true rfl⟩) hS (fun q _ h => hc_7.2.2 q h) hc_7.2.2 (fun r_7 u_7 t_7 H1 locs ht hvm h_7 hB hz1 hk1 hS => ?_)
      refine xl_1_3 hB (fun msn_7 hP1 hD1 hF_7_0 => ?_)
      clear hB
      rw [ht] at hP1
      obtain ⟨hP, hD⟩ := va_join (wr := [(xI m_la cI 8 fn_), (xI m_sz cI 8 fz)]) (w1 := [(xo_8_rrriirrriiiiiiirrirrrrri mo m_la m_sz m_it msn_7 mt m_st m_mv m_tp (nI mz) ml (nI mp) mk mv mb mw m_rd m_ac (nI ma) m_as m_wo m_ik m_ke m_tr (nI mx))]) hP hD [0] [1, 2] rfl rfl (by decide +kernel) (by decide +kernel) hk1 hc_7.2.2 hP1 hD1
      generalize H1 = H at hP hS ⊢
      have hP : va_P (dC, dI) vwCl [(xI m_la cI 8 fn_), (xI m_sz cI 8 fz), (xo_8_rrriirrriiiiiiirrirrrrri mo m_la m_sz m_it msn_7 mt m_st m_mv m_tp (nI mz) ml (nI mp) mk mv mb mw m_rd m_ac (nI ma) m_as m_wo m_ik m_ke m_tr (nI mx))] H := hP
      have hD := dto hP hD
      have hX9 := cut2 (wc := [(xo_8_rrriirrriiiiiiirrirrrrri mo m_la m_sz m_it msn_7 mt m_st m_mv m_tp (nI mz) ml (nI mp) mk mv mb mw m_rd m_ac (nI ma) m_as m_wo m_ik m_ke m_tr (nI mx)), (xI m_la cI 8 fn_), (xI m_sz cI 8 fz)]) hP hD [2, 0, 1] (by decide +kernel) rfl
      exact W.iret (v := r_7) hx hb hr (fun t ht hW => ⟨⟨r_7, (), rfl, (lf_X8_drop_10 hsz9 hln9 hj_1 hs_5 hF_7_0 h_7), ⟨fz, msn_7, va_Ht ht hX9.1, hX9.2, hsz9, (lf_X8_drop_6 hsz9 hln9 hj_1 hs_5 hF_7_0 h_7), (lf_X8_drop_7 hsz9 hln9 hj_1 hs_5 hF_7_0 h_7), (lf_X8_drop_8 hsz9 hln9 hj_1 hs_5 hF_7_0 h_7), (lf_X8_drop_9 hsz9 hln9 hj_1 hs_5 hF_7_0 h_7)⟩⟩, hS.F ht⟩) hS.2.2 dX8_drop_24
    · obtain rfl : v_5 = nI q_5 := e_5.trans hs_5
      refine lv_if_ge (tgt := 25) hx hb dX8_drop_16 (by decide) (fun _ => ?_) (fun c_ => absurd ((nI_leI (a := 0) (b := q_5) (by omega) (by omega)).mpr (by omega)) c_)
      refine lv_aload_n hx hb dX8_drop_25 rfl (lv_at hl 0 rfl) ?_
      refine va_get (D := (dC, dI)) (ci := 8) (v := .ref m_sz) (C := RX8) (T := TX8) (N := 24) hx hb hts i_X8_drop_X8 hown hK hP 0 rfl rfl 1 (by decide) (hts _ mx_X8_drop_2) (fun _ h9 => h9) rfl dX8_drop_26 ?_
      refine lv_iload_n hx hb dX8_drop_29 rfl (lv_at hl 1 rfl) ?_
      refine va_iald hx hb hK hP 2 0 rfl rfl (vp_in_nI (by omega) (by omega)) dX8_drop_30 ?_
      refine lv_topi (fun v_9 e_9 => ?_)
      obtain rfl : v_9 = (nI q_5) := e_9.trans (by rw [nI_clamp (by omega)]; exact hs_5)
      refine lv_istore_n (lv' := [(2, .int (nI q_5)), (0, .ref mo), (1, .int (nI j_1))]) hx hb dX8_drop_31 rfl hl (by decide) rfl (fun ls hl => ?_)
      refine lv_aload_n hx hb dX8_drop_32 rfl (lv_at hl 1 rfl) ?_
      refine va_get (D := (dC, dI)) (ci := 8) (v := .ref m_sz) (C := RX8) (T := TX8) (N := 24) hx hb hts i_X8_drop_X8 hown hK hP 0 rfl rfl 1 (by decide) (hts _ mx_X8_drop_2) (fun _ h9 => h9) rfl dX8_drop_33 ?_
      refine lv_iload_n hx hb dX8_drop_36 rfl (lv_at hl 2 rfl) ?_
      refine lv_iconst (v := (-1)) hx hb dX8_drop_37 (by decide) ?_
      refine va_iast hx hb hK hP hD hS 2 0 rfl rfl (vp_in_nI (by omega) (by omega)) dX8_drop_38 (fun H locs hP hD hS => ?_)
      generalize hg_10 : upd fz ((nI j_1) : Int32).toNatClampNeg (-1) = g_10 at hP hD
      have hu_10 : g_10 = upd fz j_1 (-1) := (by rw [← hg_10, nI_clamp (by omega)])
      have hsu := sz_dn hsz9 hg_10
      have hP : va_P (dC, dI) vwCl [(xo_8_rrriirrriiiiiiirrirrrrri mo m_la m_sz m_it ms mt m_st m_mv m_tp (nI mz) ml (nI mp) mk mv mb mw m_rd m_ac (nI ma) m_as m_wo m_ik m_ke m_tr (nI mx)), (xI m_la cI 8 fn_), (xI m_sz cI 8 g_10)] H := hP
      have hD := dto hP hD
      refine lv_aload_n hx hb dX8_drop_39 rfl (lv_at hl 1 rfl) ?_
      refine lv_iload_n hx hb dX8_drop_40 rfl (lv_at hl 0 rfl) ?_
      have hc_11 := cutW (wc := [(xo_8_rrriirrriiiiiiirrirrrrri mo m_la m_sz m_it ms mt m_st m_mv m_tp (nI mz) ml (nI mp) mk mv mb mw m_rd m_ac (nI ma) m_as m_wo m_ik m_ke m_tr (nI mx))]) hP hD hS hA [0] (by decide +kernel) rfl
      refine va_calli (va_runV (As := [.int (nI q_5)]) (rest := []) ⟨hx, hb, hml, hown, hts⟩ (r_X8_well l dC dI cI cZ cL cJ H.size mo m_la m_sz m_it m_st m_mv m_tp m_rd m_ac m_as m_wo m_ik m_ke m_tr ms mt ml mk mv mb mw mz mp ma mx (nI q_5) ) (cwV 1 hts gX8_drop_X8_well rfl rfl rfl (by decide +kernel) ⟨Nat.le_of_ble_eq_true rfl, Nat.le_of_ble_eq_true rfl⟩) (pvW 8 0 hK hP rfl rfl hc_11) rfl rfl hl.1 rfl (lv_room (Nat.le_of_ble_eq_true rfl)) dX8_drop_41 ⟨Nat.le_of_ble_eq_true rfl, Nat.le_of_ble_eq_true rfl⟩) hS (fun q _ h => hc_11.2.2 q h) hc_11.2.2 (fun r_11 u_11 t_11 H1 locs ht hvm h_11 hB hz1 hk1 hS => ?_)
      refine xl_1_3 hB (fun msn_11 hP1 hD1 hF_11_0 => ?_)
      clear hB
      rw [ht] at hP1
      obtain ⟨hP, hD⟩ := va_join (wr := [(xI m_la cI 8 fn_), (xI m_sz cI 8 g_10)]) (w1 := [(xo_8_rrriirrriiiiiiirrirrrrri mo m_la m_sz m_it msn_11 mt m_st m_mv m_tp (nI mz) ml (nI mp) mk mv mb mw m_rd m_ac (nI ma) m_as m_wo m_ik m_ke m_tr (nI mx))]) hP hD [0] [1, 2] rfl rfl (by decide +kernel) (by decide +kernel) hk1 hc_11.2.2 hP1 hD1
      generalize H1 = H at hP hS ⊢
      have hP : va_P (dC, dI) vwCl [(xI m_la cI 8 fn_), (xI m_sz cI 8 g_10), (xo_8_rrriirrriiiiiiirrirrrrri mo m_la m_sz m_it msn_11 mt m_st m_mv m_tp (nI mz) ml (nI mp) mk mv mb mw m_rd m_ac (nI ma) m_as m_wo m_ik m_ke m_tr (nI mx))] H := hP
      have hD := dto hP hD
      have hX9 := cut2 (wc := [(xo_8_rrriirrriiiiiiirrirrrrri mo m_la m_sz m_it msn_11 mt m_st m_mv m_tp (nI mz) ml (nI mp) mk mv mb mw m_rd m_ac (nI ma) m_as m_wo m_ik m_ke m_tr (nI mx)), (xI m_la cI 8 fn_), (xI m_sz cI 8 g_10)]) hP hD [2, 0, 1] (by decide +kernel) rfl
      exact W.iret (v := r_11) hx hb hr (fun t ht hW => ⟨⟨r_11, (), rfl, (lf_X8_drop_15 hsz9 hln9 hj_1 hs_5 hq_5 hu_10 hF_11_0 h_11), ⟨g_10, msn_11, va_Ht ht hX9.1, hX9.2, hsu, (lf_X8_drop_11 hsz9 hln9 hj_1 hs_5 hq_5 hu_10 hF_11_0 h_11), (lf_X8_drop_12 hsz9 hln9 hj_1 hs_5 hq_5 hu_10 hF_11_0 h_11), (lf_X8_drop_13 hsz9 hln9 hj_1 hs_5 hq_5 hu_10 hF_11_0 h_11), (lf_X8_drop_14 hsz9 hln9 hj_1 hs_5 hq_5 hu_10 hF_11_0 h_11)⟩⟩, hS.F ht⟩) hS.2.2 dX8_drop_44
