-- written by gen92.py: the other side's other calls
def FQ'' (m : Nat) (h h' : HP) : Prop := (∀ k, ¬ k = 33 → hI h' m k = hI h m k) ∧ ∀ b, ¬ b = m → hI h' b = hI h b
/-- only the tape, the row, and m's own counts of them have changed -/
theorem MI.side {h h' : HP} {m tl len tl2 len2 : Nat} {tp r tp2 r2 : Nat → Nat} {S : VS} {H : HS} (C : MI h m S H tp tl r len) (gH : GH H) (f : Sm4 h h') (e1 : ∀ k, ¬ k = 27 → ¬ k = 40 → hI h' m k = hI h m k) (e2 : ∀ b, m < b → b < m + 20 → ¬ b = m + 12 → ¬ b = m + 18 → hI h' b = hI h b) (e3 : ∀ b, m ≤ b → b < m + 20 → hL h' b = hL h b) (t : MT h' m tp2 tl2) (R : MR h' m r2 len2) : MI h' m S H tp2 tl2 r2 len2 := by
  obtain ⟨⟨⟨k0, r1, r2, r3, r4, r5, r6, r7, r8, r9, r10⟩, l⟩, ⟨⟨a1, a2⟩, a3, a4, a5⟩, -, -⟩ := C
  have em : mt5 h' m = mt5 h m := by
    funext j
    unfold mt5
    rw [e2 (m + 5) (by omega) (by omega) (by omega) (by omega), e2 (m + 6) (by omega) (by omega) (by omega) (by omega), e2 (m + 7) (by omega) (by omega) (by omega) (by omega), e2 (m + 8) (by omega) (by omega) (by omega) (by omega), e3 (m + 11) (by omega) (by omega)]
  have kp : ∀ w T, KP h m w T → Good T → KP h' m w T := fun w T p g => p.cong g (fun j hj => by rw [e2 (m + 16) (by omega) (by omega) (by omega) (by omega)]) (fun j hj => by rw [e3 (m + 17) (by omega) (by omega)])
  refine ⟨⟨⟨k0.kept f.1 f.2.1 f.2.2.1, ?_⟩, ?_⟩, ⟨⟨?_, ?_⟩, fun hn => ?_, fun I hI => ⟨?_, ?_⟩, fun j hj => ?_⟩, t, R⟩
  · unfold RMr
    rw [e1 11 (by decide) (by decide), e2 (m + 2) (by omega) (by omega) (by omega) (by omega), e2 (m + 3) (by omega) (by omega) (by omega) (by omega), e2 (m + 4) (by omega) (by omega) (by omega) (by omega), e3 (m + 9) (by omega) (by omega), e3 (m + 10) (by omega) (by omega), e1 12 (by decide) (by decide), em, e3 m (by omega) (by omega), e1 13 (by decide) (by decide), e1 14 (by decide) (by decide), e1 15 (by decide) (by decide), e1 16 (by decide) (by decide)]
    exact ⟨r1, r2, r3, r4, r5, r6, r7, r8, r9, r10⟩
  · unfold FMl at l ⊢
    rw [e1 19 (by decide) (by decide), e1 22 (by decide) (by decide), e1 21 (by decide) (by decide)]
    exact l
  · rw [e1 37 (by decide) (by decide)]; exact a1
  · rw [e1 38 (by decide) (by decide)]; exact a2
  · rw [e1 33 (by decide) (by decide)]; exact a3 hn
  · rw [e1 33 (by decide) (by decide)]; exact (a4 I hI).1
  · exact kp 0 I (a4 I hI).2 (gH.2.1 I hI).1
  · exact kp _ _ (a5 j hj) (gH.2.2 j hj).1
theorem MI.tape {h : HP} {m tl len j : Nat} {tp r : Nat → Nat} {S : VS} {H : HS} (C : MI h m S H tp tl r len) (gH : GH H) (ht : tl < 96) (hj : j < 256) : MI (sI (sI h (m + 12) tl (nI j)) m 27 (nI (tl + 1))) m S H (va_up tp tl j) (tl + 1) r len := by
  have R := C.2.2.2
  have t := C.2.2.1
  refine C.side gH Sm4.rf (fun k h1 h2 => by rw [hI_sI, if_neg (by omega), hI_sI_ne (by omega)]) (fun b h1 h2 h3 h4 => by rw [hI_sI_ne (by omega), hI_sI_ne (by omega)]) (fun b _ _ => rfl) ⟨by rw [hI_sI, if_pos ⟨rfl, rfl⟩], by omega, fun i hi => ?_⟩ ?_
  · rw [hI_sI_ne (by omega), hI_sI_eq]
    unfold va_up
    by_cases e : i = tl
    · rw [if_pos e, if_pos e]
      exact ⟨rfl, hj⟩
    · rw [if_neg e, if_neg e]
      exact t.2.2 i (by omega)
  · unfold MR at R ⊢
    rw [hI_sI, if_neg (by omega), hI_sI_ne (by omega), hI_sI_ne (by omega), hI_sI_ne (by omega)]
    exact R
theorem MI.tape0 {h : HP} {m tl len : Nat} {tp r : Nat → Nat} {S : VS} {H : HS} (C : MI h m S H tp tl r len) (gH : GH H) : MI (sI h m 27 0) m S H tp 0 r len := by
  have R := C.2.2.2
  refine C.side gH Sm4.rf (fun k h1 h2 => by rw [hI_sI, if_neg (by omega)]) (fun b h1 h2 h3 h4 => by rw [hI_sI_ne (by omega)]) (fun b _ _ => rfl) ⟨by rw [hI_sI, if_pos ⟨rfl, rfl⟩]; rfl, by omega, fun i hi => absurd hi (Nat.not_lt_zero i)⟩ ?_
  unfold MR at R ⊢
  rw [hI_sI, if_neg (by omega), hI_sI_ne (by omega)]
  exact R
theorem MI.row0 {h : HP} {m tl len : Nat} {tp r : Nat → Nat} {S : VS} {H : HS} (C : MI h m S H tp tl r len) (gH : GH H) : MI (sI h m 40 0) m S H tp tl r 0 := by
  have t := C.2.2.1
  refine C.side gH Sm4.rf (fun k h1 h2 => by rw [hI_sI, if_neg (by omega)]) (fun b h1 h2 h3 h4 => by rw [hI_sI_ne (by omega)]) (fun b _ _ => rfl) ?_ ⟨by rw [hI_sI, if_pos ⟨rfl, rfl⟩]; rfl, by omega, fun i hi => absurd hi (Nat.not_lt_zero i)⟩
  unfold MT at t ⊢
  rw [hI_sI, if_neg (by omega), hI_sI_ne (by omega)]
  exact t
theorem MI.row1 {h : HP} {m tl len j : Nat} {tp r : Nat → Nat} {S : VS} {H : HS} (C : MI h m S H tp tl r len) (gH : GH H) (ht : len < 12) (hj : j < 100) : MI (sI (sI h (m + 18) len (nI j)) m 40 (nI (len + 1))) m S H tp tl (va_up r len j) (len + 1) := by
  have R := C.2.2.2
  have t := C.2.2.1
  refine C.side gH Sm4.rf (fun k h1 h2 => by rw [hI_sI, if_neg (by omega), hI_sI_ne (by omega)]) (fun b h1 h2 h3 h4 => by rw [hI_sI_ne (by omega), hI_sI_ne (by omega)]) (fun b _ _ => rfl) ?_ ⟨by rw [hI_sI, if_pos ⟨rfl, rfl⟩], by omega, fun i hi => ?_⟩
  · unfold MT at t ⊢
    rw [hI_sI, if_neg (by omega), hI_sI_ne (by omega), hI_sI_ne (by omega), hI_sI_ne (by omega)]
    exact t
  · rw [hI_sI_ne (by omega), hI_sI_eq]
    unfold va_up
    by_cases e : i = len
    · rw [if_pos e, if_pos e]
      exact ⟨rfl, hj⟩
    · rw [if_neg e, if_neg e]
      exact R.2.2 i (by omega)
set_option maxHeartbeats 8000000 in
theorem o_feed {y : Int32} {d tl len : Nat} {tp r : Nat → Nat} {Q : PQ} {h : HP} {m : Nat} {S : VS} {H : HS} (C : MI h m S H tp tl r len) (gS : GV S) (gH : GH H)
    (kr : ∀ w, why false (decide (y < 0)) (decide (255 < y) || isFl tl) false = w → ¬ w = 0 → Q (some (.int w)) (RfM h m w))
    (k : why false (decide (y < 0)) (decide (255 < y) || isFl tl) false = 0 → KM h m S H (va_up tp tl (tc y)) (tl + 1) r len (Q (some (.int (nI (tl + 1)))))) : Ev (d + 4) 14 [.ref m, .int y] h Q := by
  have M := C.1
  have g := gS.1
  have hy := gS.2
  have K := M.1.k
  unfold MK at K
  have gn := g.n
  have gl := g.l
  have T := C.2.2.1
  have e96 : (nI tl = 96) = (tl = 96) := eqP (b := 96) (by have := T.2.1; omega) (by decide)
  by_cases h0 : y < 0
  · simp only [e14, s14_0, s14_1, s14_2, s14_5, s14_8, s14_9, s14_10, s14_13, s14_14, s14_17, s14_19, s14_22, s14_24, s14_25, s14_26, s14_29, s14_30, s14_31, s14_34, s14_35, s14_36, s14_39, s14_40, s14_43, s14_44, s14_45, s14_46, s14_47, s14_50, s14_51, s14_52, s14_55, s14_56, s14_59, oB_some, cl2_i, cl2_r, cl2_l, cl2_u, cl2_s, wd_0, wd_i, wd_r, wd_l, wd_f, ct_i, ct_r, ct_n, ct_f, rf_s, rf_n, tl_s, tl_n, true_and, and_true, eq_self, and_self, Nat.reduceAdd, Nat.reduceLeDiff, Nat.zero_le, Nat.reduceEqDiff, or_true, true_or, false_or, or_false, if_true, if_false, gI_0, gI_1, gI_2, gI_3, gI_4, gI_5, gI_6, gI_7, gI_8, gI_9, gI_10, gI_11, gI_12, gI_13, gI_14, gI_15, gL_0, gL_1, gL_2, gL_3, gL_4, gL_5, gL_6, gL_7, gL_8, gL_9, gL_10, gL_11, gL_12, gL_13, gL_14, gL_15, gA_0, gA_1, gA_2, gA_3, gA_4, gA_5, gA_6, gA_7, gA_8, gA_9, gA_10, gA_11, gA_12, gA_13, gA_14, gA_15, p1_0, p1_1, p1_2, p1_3, p1_4, p1_5, p1_6, p1_7, p1_8, p1_9, p1_10, p1_11, p1_12, p1_13, p1_14, p1_15, p2_0, p2_1, p2_2, p2_3, p2_4, p2_5, p2_6, p2_7, p2_8, p2_9, p2_10, p2_11, p2_12, p2_13, p2_14, p2_15, b01_ok, b_ft, b_tf, b01_e0, b01_e1, lgc_0, not_true_eq_false, not_false_eq_true, K, Bool.true_eq_false, Bool.false_eq_true, zm1, zm2, zm3, zm4, zm6, z10, Bool.or_false, Bool.false_or, Bool.or_true, Bool.true_or, Bool.not_true, Bool.not_false, not_true_eq_false, not_false_eq_true, m_bound, bnd, m_isIn, in01, m_isPersonI M.1 g, true_and, and_true, false_and, and_false, decide_true, decide_false, n_no1 M.1.k, n_no2 M.1.k, n_no3 M.1.k, n_no4 M.1.k, n_no6 M.1.k, h0, ite_self]
    exact kr (-4) (by simp [why, h0]) (by decide)
  · by_cases h1 : 255 < y
    · simp only [e14, s14_0, s14_1, s14_2, s14_5, s14_8, s14_9, s14_10, s14_13, s14_14, s14_17, s14_19, s14_22, s14_24, s14_25, s14_26, s14_29, s14_30, s14_31, s14_34, s14_35, s14_36, s14_39, s14_40, s14_43, s14_44, s14_45, s14_46, s14_47, s14_50, s14_51, s14_52, s14_55, s14_56, s14_59, oB_some, cl2_i, cl2_r, cl2_l, cl2_u, cl2_s, wd_0, wd_i, wd_r, wd_l, wd_f, ct_i, ct_r, ct_n, ct_f, rf_s, rf_n, tl_s, tl_n, true_and, and_true, eq_self, and_self, Nat.reduceAdd, Nat.reduceLeDiff, Nat.zero_le, Nat.reduceEqDiff, or_true, true_or, false_or, or_false, if_true, if_false, gI_0, gI_1, gI_2, gI_3, gI_4, gI_5, gI_6, gI_7, gI_8, gI_9, gI_10, gI_11, gI_12, gI_13, gI_14, gI_15, gL_0, gL_1, gL_2, gL_3, gL_4, gL_5, gL_6, gL_7, gL_8, gL_9, gL_10, gL_11, gL_12, gL_13, gL_14, gL_15, gA_0, gA_1, gA_2, gA_3, gA_4, gA_5, gA_6, gA_7, gA_8, gA_9, gA_10, gA_11, gA_12, gA_13, gA_14, gA_15, p1_0, p1_1, p1_2, p1_3, p1_4, p1_5, p1_6, p1_7, p1_8, p1_9, p1_10, p1_11, p1_12, p1_13, p1_14, p1_15, p2_0, p2_1, p2_2, p2_3, p2_4, p2_5, p2_6, p2_7, p2_8, p2_9, p2_10, p2_11, p2_12, p2_13, p2_14, p2_15, b01_ok, b_ft, b_tf, b01_e0, b01_e1, lgc_0, not_true_eq_false, not_false_eq_true, K, Bool.true_eq_false, Bool.false_eq_true, zm1, zm2, zm3, zm4, zm6, z10, Bool.or_false, Bool.false_or, Bool.or_true, Bool.true_or, Bool.not_true, Bool.not_false, not_true_eq_false, not_false_eq_true, m_bound, bnd, m_isIn, in01, m_isPersonI M.1 g, true_and, and_true, false_and, and_false, decide_true, decide_false, n_no1 M.1.k, n_no2 M.1.k, n_no3 M.1.k, n_no4 M.1.k, n_no6 M.1.k, h0, h1, ite_self]
      exact kr (-6) (by simp [why, h0, h1]) (by decide)
    · by_cases hf : tl = 96
      · simp only [e14, s14_0, s14_1, s14_2, s14_5, s14_8, s14_9, s14_10, s14_13, s14_14, s14_17, s14_19, s14_22, s14_24, s14_25, s14_26, s14_29, s14_30, s14_31, s14_34, s14_35, s14_36, s14_39, s14_40, s14_43, s14_44, s14_45, s14_46, s14_47, s14_50, s14_51, s14_52, s14_55, s14_56, s14_59, oB_some, cl2_i, cl2_r, cl2_l, cl2_u, cl2_s, wd_0, wd_i, wd_r, wd_l, wd_f, ct_i, ct_r, ct_n, ct_f, rf_s, rf_n, tl_s, tl_n, true_and, and_true, eq_self, and_self, Nat.reduceAdd, Nat.reduceLeDiff, Nat.zero_le, Nat.reduceEqDiff, or_true, true_or, false_or, or_false, if_true, if_false, gI_0, gI_1, gI_2, gI_3, gI_4, gI_5, gI_6, gI_7, gI_8, gI_9, gI_10, gI_11, gI_12, gI_13, gI_14, gI_15, gL_0, gL_1, gL_2, gL_3, gL_4, gL_5, gL_6, gL_7, gL_8, gL_9, gL_10, gL_11, gL_12, gL_13, gL_14, gL_15, gA_0, gA_1, gA_2, gA_3, gA_4, gA_5, gA_6, gA_7, gA_8, gA_9, gA_10, gA_11, gA_12, gA_13, gA_14, gA_15, p1_0, p1_1, p1_2, p1_3, p1_4, p1_5, p1_6, p1_7, p1_8, p1_9, p1_10, p1_11, p1_12, p1_13, p1_14, p1_15, p2_0, p2_1, p2_2, p2_3, p2_4, p2_5, p2_6, p2_7, p2_8, p2_9, p2_10, p2_11, p2_12, p2_13, p2_14, p2_15, b01_ok, b_ft, b_tf, b01_e0, b01_e1, lgc_0, not_true_eq_false, not_false_eq_true, K, Bool.true_eq_false, Bool.false_eq_true, zm1, zm2, zm3, zm4, zm6, z10, Bool.or_false, Bool.false_or, Bool.or_true, Bool.true_or, Bool.not_true, Bool.not_false, not_true_eq_false, not_false_eq_true, m_bound, bnd, m_isIn, in01, m_isPersonI M.1 g, true_and, and_true, false_and, and_false, decide_true, decide_false, n_no1 M.1.k, n_no2 M.1.k, n_no3 M.1.k, n_no4 M.1.k, n_no6 M.1.k, h0, h1, T.1, e96, hf, ite_self]
        exact kr (-6) (by simp [why, isFl, h0, h1, hf]) (by decide)
      · have kk := k (by simp [why, isFl, h0, h1, hf])
        have tl96 : tl < 96 := by have := T.2.1; omega
        have t31 : tl < 2 ^ 31 := by omega
        obtain ⟨j, hj, rfl⟩ := arg_of (n := 255) (M := 255) rfl (by decide) h0 h1
        rw [tc_n (show j < 2 ^ 31 by omega)] at kk
        have n1 : hI (sI h (m + 12) tl (nI j)) m 27 = nI tl := by rw [hI_sI_ne (by omega)]; exact T.1
        have n2 : hI (sI (sI h (m + 12) tl (nI j)) m 27 (nI (tl + 1))) m 27 = nI (tl + 1) := by rw [hI_sI, if_pos ⟨rfl, rfl⟩]
        simp only [e14, s14_0, s14_1, s14_2, s14_5, s14_8, s14_9, s14_10, s14_13, s14_14, s14_17, s14_19, s14_22, s14_24, s14_25, s14_26, s14_29, s14_30, s14_31, s14_34, s14_35, s14_36, s14_39, s14_40, s14_43, s14_44, s14_45, s14_46, s14_47, s14_50, s14_51, s14_52, s14_55, s14_56, s14_59, oB_some, cl2_i, cl2_r, cl2_l, cl2_u, cl2_s, wd_0, wd_i, wd_r, wd_l, wd_f, ct_i, ct_r, ct_n, ct_f, rf_s, rf_n, tl_s, tl_n, true_and, and_true, eq_self, and_self, Nat.reduceAdd, Nat.reduceLeDiff, Nat.zero_le, Nat.reduceEqDiff, or_true, true_or, false_or, or_false, if_true, if_false, gI_0, gI_1, gI_2, gI_3, gI_4, gI_5, gI_6, gI_7, gI_8, gI_9, gI_10, gI_11, gI_12, gI_13, gI_14, gI_15, gL_0, gL_1, gL_2, gL_3, gL_4, gL_5, gL_6, gL_7, gL_8, gL_9, gL_10, gL_11, gL_12, gL_13, gL_14, gL_15, gA_0, gA_1, gA_2, gA_3, gA_4, gA_5, gA_6, gA_7, gA_8, gA_9, gA_10, gA_11, gA_12, gA_13, gA_14, gA_15, p1_0, p1_1, p1_2, p1_3, p1_4, p1_5, p1_6, p1_7, p1_8, p1_9, p1_10, p1_11, p1_12, p1_13, p1_14, p1_15, p2_0, p2_1, p2_2, p2_3, p2_4, p2_5, p2_6, p2_7, p2_8, p2_9, p2_10, p2_11, p2_12, p2_13, p2_14, p2_15, b01_ok, b_ft, b_tf, b01_e0, b01_e1, lgc_0, not_true_eq_false, not_false_eq_true, z_hkd_sI, z_hln_sI, z_hL_sI, z_hR_sI, z_hnx_sI, z_hkd_sL, z_hln_sL, z_hI_sL, z_hR_sL, z_hnx_sL, z_hkd_sR, z_hln_sR, z_hI_sR, z_hL_sR, z_hnx_sR, z_hkd_cI, z_hln_cI, z_hL_cI, z_hR_cI, z_hnx_cI, z_hkd_cLg, z_hln_cLg, z_hI_cLg, z_hR_cLg, z_hnx_cLg, K, Bool.true_eq_false, Bool.false_eq_true, zm1, zm2, zm3, zm4, zm6, z10, Bool.or_false, Bool.false_or, Bool.or_true, Bool.true_or, Bool.not_true, Bool.not_false, not_true_eq_false, not_false_eq_true, m_bound, bnd, m_isIn, in01, m_isPersonI M.1 g, true_and, and_true, false_and, and_false, decide_true, decide_false, n_no1 M.1.k, n_no2 M.1.k, n_no3 M.1.k, n_no4 M.1.k, n_no6 M.1.k, h0, h1, T.1, e96, hf, ix_nI t31, nI_pos' t31, tl96, n1, nI_1, n2]
        exact kk _ ((FMm.rf.sI (by omega) (by omega)).sI (by omega) (by omega)) (by rw [hI_sI_ne (by omega), hI_sI_ne (by omega)]) (C.tape gH tl96 (by omega))
set_option maxHeartbeats 8000000 in
theorem o_row {y : Int32} {d tl len : Nat} {tp r : Nat → Nat} {Q : PQ} {h : HP} {m : Nat} {S : VS} {H : HS} (C : MI h m S H tp tl r len) (gS : GV S) (gH : GH H)
    (kr : ∀ w, why false (decide (y < 0)) (decide (99 < y) || decide (len = 12)) false = w → ¬ w = 0 → Q (some (.int w)) (RfM h m w))
    (k : why false (decide (y < 0)) (decide (99 < y) || decide (len = 12)) false = 0 → KM h m S H tp tl (va_up r len (tc y)) (len + 1) (Q (some (.int (nI (len + 1)))))) : Ev (d + 4) 252 [.ref m, .int y] h Q := by
  have M := C.1
  have g := gS.1
  have hy := gS.2
  have K := M.1.k
  unfold MK at K
  have gn := g.n
  have gl := g.l
  have Rw := C.2.2.2
  have e12 : (nI len = 12) = (len = 12) := eqP (b := 12) (by have := Rw.2.1; omega) (by decide)
  by_cases h0 : y < 0
  · simp only [e252, s252_0, s252_1, s252_2, s252_4, s252_7, s252_8, s252_9, s252_12, s252_13, s252_16, s252_18, s252_21, s252_23, s252_24, s252_25, s252_28, s252_29, s252_30, s252_33, s252_34, s252_35, s252_38, s252_39, s252_42, s252_43, s252_44, s252_45, s252_46, s252_49, s252_50, s252_51, s252_54, s252_55, s252_58, oB_some, cl2_i, cl2_r, cl2_l, cl2_u, cl2_s, wd_0, wd_i, wd_r, wd_l, wd_f, ct_i, ct_r, ct_n, ct_f, rf_s, rf_n, tl_s, tl_n, true_and, and_true, eq_self, and_self, Nat.reduceAdd, Nat.reduceLeDiff, Nat.zero_le, Nat.reduceEqDiff, or_true, true_or, false_or, or_false, if_true, if_false, gI_0, gI_1, gI_2, gI_3, gI_4, gI_5, gI_6, gI_7, gI_8, gI_9, gI_10, gI_11, gI_12, gI_13, gI_14, gI_15, gL_0, gL_1, gL_2, gL_3, gL_4, gL_5, gL_6, gL_7, gL_8, gL_9, gL_10, gL_11, gL_12, gL_13, gL_14, gL_15, gA_0, gA_1, gA_2, gA_3, gA_4, gA_5, gA_6, gA_7, gA_8, gA_9, gA_10, gA_11, gA_12, gA_13, gA_14, gA_15, p1_0, p1_1, p1_2, p1_3, p1_4, p1_5, p1_6, p1_7, p1_8, p1_9, p1_10, p1_11, p1_12, p1_13, p1_14, p1_15, p2_0, p2_1, p2_2, p2_3, p2_4, p2_5, p2_6, p2_7, p2_8, p2_9, p2_10, p2_11, p2_12, p2_13, p2_14, p2_15, b01_ok, b_ft, b_tf, b01_e0, b01_e1, lgc_0, not_true_eq_false, not_false_eq_true, K, Bool.true_eq_false, Bool.false_eq_true, zm1, zm2, zm3, zm4, zm6, z10, Bool.or_false, Bool.false_or, Bool.or_true, Bool.true_or, Bool.not_true, Bool.not_false, not_true_eq_false, not_false_eq_true, m_bound, bnd, m_isIn, in01, m_isPersonI M.1 g, true_and, and_true, false_and, and_false, decide_true, decide_false, n_no1 M.1.k, n_no2 M.1.k, n_no3 M.1.k, n_no4 M.1.k, n_no6 M.1.k, h0, ite_self]
    exact kr (-4) (by simp [why, h0]) (by decide)
  · by_cases h1 : 99 < y
    · simp only [e252, s252_0, s252_1, s252_2, s252_4, s252_7, s252_8, s252_9, s252_12, s252_13, s252_16, s252_18, s252_21, s252_23, s252_24, s252_25, s252_28, s252_29, s252_30, s252_33, s252_34, s252_35, s252_38, s252_39, s252_42, s252_43, s252_44, s252_45, s252_46, s252_49, s252_50, s252_51, s252_54, s252_55, s252_58, oB_some, cl2_i, cl2_r, cl2_l, cl2_u, cl2_s, wd_0, wd_i, wd_r, wd_l, wd_f, ct_i, ct_r, ct_n, ct_f, rf_s, rf_n, tl_s, tl_n, true_and, and_true, eq_self, and_self, Nat.reduceAdd, Nat.reduceLeDiff, Nat.zero_le, Nat.reduceEqDiff, or_true, true_or, false_or, or_false, if_true, if_false, gI_0, gI_1, gI_2, gI_3, gI_4, gI_5, gI_6, gI_7, gI_8, gI_9, gI_10, gI_11, gI_12, gI_13, gI_14, gI_15, gL_0, gL_1, gL_2, gL_3, gL_4, gL_5, gL_6, gL_7, gL_8, gL_9, gL_10, gL_11, gL_12, gL_13, gL_14, gL_15, gA_0, gA_1, gA_2, gA_3, gA_4, gA_5, gA_6, gA_7, gA_8, gA_9, gA_10, gA_11, gA_12, gA_13, gA_14, gA_15, p1_0, p1_1, p1_2, p1_3, p1_4, p1_5, p1_6, p1_7, p1_8, p1_9, p1_10, p1_11, p1_12, p1_13, p1_14, p1_15, p2_0, p2_1, p2_2, p2_3, p2_4, p2_5, p2_6, p2_7, p2_8, p2_9, p2_10, p2_11, p2_12, p2_13, p2_14, p2_15, b01_ok, b_ft, b_tf, b01_e0, b01_e1, lgc_0, not_true_eq_false, not_false_eq_true, K, Bool.true_eq_false, Bool.false_eq_true, zm1, zm2, zm3, zm4, zm6, z10, Bool.or_false, Bool.false_or, Bool.or_true, Bool.true_or, Bool.not_true, Bool.not_false, not_true_eq_false, not_false_eq_true, m_bound, bnd, m_isIn, in01, m_isPersonI M.1 g, true_and, and_true, false_and, and_false, decide_true, decide_false, n_no1 M.1.k, n_no2 M.1.k, n_no3 M.1.k, n_no4 M.1.k, n_no6 M.1.k, h0, h1, ite_self]
      exact kr (-6) (by simp [why, h0, h1]) (by decide)
    · by_cases hf : len = 12
      · simp only [e252, s252_0, s252_1, s252_2, s252_4, s252_7, s252_8, s252_9, s252_12, s252_13, s252_16, s252_18, s252_21, s252_23, s252_24, s252_25, s252_28, s252_29, s252_30, s252_33, s252_34, s252_35, s252_38, s252_39, s252_42, s252_43, s252_44, s252_45, s252_46, s252_49, s252_50, s252_51, s252_54, s252_55, s252_58, oB_some, cl2_i, cl2_r, cl2_l, cl2_u, cl2_s, wd_0, wd_i, wd_r, wd_l, wd_f, ct_i, ct_r, ct_n, ct_f, rf_s, rf_n, tl_s, tl_n, true_and, and_true, eq_self, and_self, Nat.reduceAdd, Nat.reduceLeDiff, Nat.zero_le, Nat.reduceEqDiff, or_true, true_or, false_or, or_false, if_true, if_false, gI_0, gI_1, gI_2, gI_3, gI_4, gI_5, gI_6, gI_7, gI_8, gI_9, gI_10, gI_11, gI_12, gI_13, gI_14, gI_15, gL_0, gL_1, gL_2, gL_3, gL_4, gL_5, gL_6, gL_7, gL_8, gL_9, gL_10, gL_11, gL_12, gL_13, gL_14, gL_15, gA_0, gA_1, gA_2, gA_3, gA_4, gA_5, gA_6, gA_7, gA_8, gA_9, gA_10, gA_11, gA_12, gA_13, gA_14, gA_15, p1_0, p1_1, p1_2, p1_3, p1_4, p1_5, p1_6, p1_7, p1_8, p1_9, p1_10, p1_11, p1_12, p1_13, p1_14, p1_15, p2_0, p2_1, p2_2, p2_3, p2_4, p2_5, p2_6, p2_7, p2_8, p2_9, p2_10, p2_11, p2_12, p2_13, p2_14, p2_15, b01_ok, b_ft, b_tf, b01_e0, b01_e1, lgc_0, not_true_eq_false, not_false_eq_true, K, Bool.true_eq_false, Bool.false_eq_true, zm1, zm2, zm3, zm4, zm6, z10, Bool.or_false, Bool.false_or, Bool.or_true, Bool.true_or, Bool.not_true, Bool.not_false, not_true_eq_false, not_false_eq_true, m_bound, bnd, m_isIn, in01, m_isPersonI M.1 g, true_and, and_true, false_and, and_false, decide_true, decide_false, n_no1 M.1.k, n_no2 M.1.k, n_no3 M.1.k, n_no4 M.1.k, n_no6 M.1.k, h0, h1, Rw.1, e12, hf, ite_self]
        exact kr (-6) (by simp [why, h0, h1, hf]) (by decide)
      · have kk := k (by simp [why, h0, h1, hf])
        have l12 : len < 12 := by have := Rw.2.1; omega
        have l31 : len < 2 ^ 31 := by omega
        obtain ⟨j, hj, rfl⟩ := arg_of (n := 99) (M := 99) rfl (by decide) h0 h1
        rw [tc_n (show j < 2 ^ 31 by omega)] at kk
        have n1 : hI (sI h (m + 18) len (nI j)) m 40 = nI len := by rw [hI_sI_ne (by omega)]; exact Rw.1
        have n2 : hI (sI (sI h (m + 18) len (nI j)) m 40 (nI (len + 1))) m 40 = nI (len + 1) := by rw [hI_sI, if_pos ⟨rfl, rfl⟩]
        simp only [e252, s252_0, s252_1, s252_2, s252_4, s252_7, s252_8, s252_9, s252_12, s252_13, s252_16, s252_18, s252_21, s252_23, s252_24, s252_25, s252_28, s252_29, s252_30, s252_33, s252_34, s252_35, s252_38, s252_39, s252_42, s252_43, s252_44, s252_45, s252_46, s252_49, s252_50, s252_51, s252_54, s252_55, s252_58, oB_some, cl2_i, cl2_r, cl2_l, cl2_u, cl2_s, wd_0, wd_i, wd_r, wd_l, wd_f, ct_i, ct_r, ct_n, ct_f, rf_s, rf_n, tl_s, tl_n, true_and, and_true, eq_self, and_self, Nat.reduceAdd, Nat.reduceLeDiff, Nat.zero_le, Nat.reduceEqDiff, or_true, true_or, false_or, or_false, if_true, if_false, gI_0, gI_1, gI_2, gI_3, gI_4, gI_5, gI_6, gI_7, gI_8, gI_9, gI_10, gI_11, gI_12, gI_13, gI_14, gI_15, gL_0, gL_1, gL_2, gL_3, gL_4, gL_5, gL_6, gL_7, gL_8, gL_9, gL_10, gL_11, gL_12, gL_13, gL_14, gL_15, gA_0, gA_1, gA_2, gA_3, gA_4, gA_5, gA_6, gA_7, gA_8, gA_9, gA_10, gA_11, gA_12, gA_13, gA_14, gA_15, p1_0, p1_1, p1_2, p1_3, p1_4, p1_5, p1_6, p1_7, p1_8, p1_9, p1_10, p1_11, p1_12, p1_13, p1_14, p1_15, p2_0, p2_1, p2_2, p2_3, p2_4, p2_5, p2_6, p2_7, p2_8, p2_9, p2_10, p2_11, p2_12, p2_13, p2_14, p2_15, b01_ok, b_ft, b_tf, b01_e0, b01_e1, lgc_0, not_true_eq_false, not_false_eq_true, z_hkd_sI, z_hln_sI, z_hL_sI, z_hR_sI, z_hnx_sI, z_hkd_sL, z_hln_sL, z_hI_sL, z_hR_sL, z_hnx_sL, z_hkd_sR, z_hln_sR, z_hI_sR, z_hL_sR, z_hnx_sR, z_hkd_cI, z_hln_cI, z_hL_cI, z_hR_cI, z_hnx_cI, z_hkd_cLg, z_hln_cLg, z_hI_cLg, z_hR_cLg, z_hnx_cLg, K, Bool.true_eq_false, Bool.false_eq_true, zm1, zm2, zm3, zm4, zm6, z10, Bool.or_false, Bool.false_or, Bool.or_true, Bool.true_or, Bool.not_true, Bool.not_false, not_true_eq_false, not_false_eq_true, m_bound, bnd, m_isIn, in01, m_isPersonI M.1 g, true_and, and_true, false_and, and_false, decide_true, decide_false, n_no1 M.1.k, n_no2 M.1.k, n_no3 M.1.k, n_no4 M.1.k, n_no6 M.1.k, h0, h1, Rw.1, e12, hf, ix_nI l31, nI_pos' l31, l12, n1, nI_1, n2]
        exact kk _ ((FMm.rf.sI (by omega) (by omega)).sI (by omega) (by omega)) (by rw [hI_sI_ne (by omega), hI_sI_ne (by omega)]) (C.row1 gH l12 (by omega))
theorem o_clear {d tl len : Nat} {tp r : Nat → Nat} {Q : PQ} {h : HP} {m : Nat} {S : VS} {H : HS} (C : MI h m S H tp tl r len) (gS : GV S) (gH : GH H)
    (k : KM h m S H tp tl r 0 (Q (some (.int (nI len))))) : Ev (d + 1) 256 [.ref m] h Q := by
  have K := C.1.1.k
  unfold MK at K
  have w := C.2.2.2.1
  simp only [e256, s256_0, s256_1, s256_4, s256_5, s256_6, s256_7, s256_10, s256_11, oB_some, cl2_i, cl2_r, cl2_l, cl2_u, cl2_s, wd_0, wd_i, wd_r, wd_l, wd_f, ct_i, ct_r, ct_n, ct_f, rf_s, rf_n, tl_s, tl_n, true_and, and_true, eq_self, and_self, Nat.reduceAdd, Nat.reduceLeDiff, Nat.zero_le, Nat.reduceEqDiff, or_true, true_or, false_or, or_false, if_true, if_false, gI_0, gI_1, gI_2, gI_3, gI_4, gI_5, gI_6, gI_7, gI_8, gI_9, gI_10, gI_11, gI_12, gI_13, gI_14, gI_15, gL_0, gL_1, gL_2, gL_3, gL_4, gL_5, gL_6, gL_7, gL_8, gL_9, gL_10, gL_11, gL_12, gL_13, gL_14, gL_15, gA_0, gA_1, gA_2, gA_3, gA_4, gA_5, gA_6, gA_7, gA_8, gA_9, gA_10, gA_11, gA_12, gA_13, gA_14, gA_15, p1_0, p1_1, p1_2, p1_3, p1_4, p1_5, p1_6, p1_7, p1_8, p1_9, p1_10, p1_11, p1_12, p1_13, p1_14, p1_15, p2_0, p2_1, p2_2, p2_3, p2_4, p2_5, p2_6, p2_7, p2_8, p2_9, p2_10, p2_11, p2_12, p2_13, p2_14, p2_15, b01_ok, b_ft, b_tf, b01_e0, b01_e1, lgc_0, not_true_eq_false, not_false_eq_true, z_hkd_sI, z_hln_sI, z_hL_sI, z_hR_sI, z_hnx_sI, z_hkd_sL, z_hln_sL, z_hI_sL, z_hR_sL, z_hnx_sL, z_hkd_sR, z_hln_sR, z_hI_sR, z_hL_sR, z_hnx_sR, z_hkd_cI, z_hln_cI, z_hL_cI, z_hR_cI, z_hnx_cI, z_hkd_cLg, z_hln_cLg, z_hI_cLg, z_hR_cLg, z_hnx_cLg, K, w]
  exact k _ (FMm.rf.sI (by omega) (by omega)) (by rw [hI_sI_ne (by omega)]) (C.row0 gH)
set_option maxHeartbeats 8000000 in
theorem o_judge {d tl len : Nat} {tp r : Nat → Nat} {Q : PQ} {h : HP} {m : Nat} {S : VS} {H : HS} (C : MI h m S H tp tl r len) (gS : GV S) (gH : GH H)
    (k : KM h m S H tp tl r 0 (Q (some (.int (oN (findA (judN S r) len 0)))))) : Ev (d + 4) 254 [.ref m] h Q := by
  have M := C.1
  have g := gS.1
  have hy := gS.2
  have K := M.1.k
  unfold MK at K
  have gn := g.n
  have gl := g.l
  obtain ⟨w5, w3, w4⟩ := C.2.2.2
  have C1 := C.row0 gH
  have M1 := C1.1
  have K1 := M1.1.k
  unfold MK at K1
  have kk := k _ (FMm.rf.sI (by omega) (by omega)) (by rw [hI_sI_ne (by omega)]) C1
  have loop : ∀ (n i : Nat), i + n = len → (∀ o, findA (judN S r) n i = o → Q (some (.int (oN o))) (sI h m 40 0)) → WP (d + 3) 254 Q (12, [.val (.ref m), .val (.int (nI len)), .val (.int (nI i))], [], sI h m 40 0, 0, 0) := by
    intro n
    induction n with
    | zero =>
      intro i hi kq
      have hin : i = len := by omega
      rw [hin, s254_12]
      simp only [s254_13, s254_14, s254_17, s254_18, s254_19, s254_22, s254_25, s254_26, s254_29, s254_30, s254_31, s254_34, s254_35, s254_38, s254_39, s254_40, s254_43, s254_44, s254_45, s254_48, s254_51, s254_53, oB_some, cl2_i, cl2_r, cl2_l, cl2_u, cl2_s, wd_0, wd_i, wd_r, wd_l, wd_f, ct_i, ct_r, ct_n, ct_f, rf_s, rf_n, tl_s, tl_n, true_and, and_true, eq_self, and_self, Nat.reduceAdd, Nat.reduceLeDiff, Nat.zero_le, Nat.reduceEqDiff, or_true, true_or, false_or, or_false, if_true, if_false, gI_0, gI_1, gI_2, gI_3, gI_4, gI_5, gI_6, gI_7, gI_8, gI_9, gI_10, gI_11, gI_12, gI_13, gI_14, gI_15, gL_0, gL_1, gL_2, gL_3, gL_4, gL_5, gL_6, gL_7, gL_8, gL_9, gL_10, gL_11, gL_12, gL_13, gL_14, gL_15, gA_0, gA_1, gA_2, gA_3, gA_4, gA_5, gA_6, gA_7, gA_8, gA_9, gA_10, gA_11, gA_12, gA_13, gA_14, gA_15, p1_0, p1_1, p1_2, p1_3, p1_4, p1_5, p1_6, p1_7, p1_8, p1_9, p1_10, p1_11, p1_12, p1_13, p1_14, p1_15, p2_0, p2_1, p2_2, p2_3, p2_4, p2_5, p2_6, p2_7, p2_8, p2_9, p2_10, p2_11, p2_12, p2_13, p2_14, p2_15, b01_ok, b_ft, b_tf, b01_e0, b01_e1, lgc_0, not_true_eq_false, not_false_eq_true, Int32.le_refl]
      exact kq none rfl
    | succ n ih =>
      intro i hi kq
      have i31 : i < 2 ^ 31 := by omega
      have i12 : i < 12 := by omega
      have z : ¬ nI len ≤ nI i := nI_ge (by omega) (by omega)
      obtain ⟨w6, w7⟩ := w4 i (by omega)
      have w8 : hI (sI h m 40 0) (m + 18) i = nI (r i) := by rw [hI_sI_ne (by omega)]; exact w6
      rw [findA_s] at kq
      rw [s254_12]
      by_cases e : i < vn S
      · have pe : isPI S (nI i) = true := by rw [isPI_nI g i31]; exact decide_eq_true e
        have lb := nb_le (vw S i)
        have i6 : i < 6 := by omega
        have w9 := (M1.1.at e).2.2.2.1
        simp only [s254_13, s254_14, s254_17, s254_18, s254_19, s254_22, s254_25, s254_26, s254_29, s254_30, s254_31, s254_34, s254_35, s254_38, s254_39, s254_40, s254_43, s254_44, s254_45, s254_48, s254_51, s254_53, oB_some, cl2_i, cl2_r, cl2_l, cl2_u, cl2_s, wd_0, wd_i, wd_r, wd_l, wd_f, ct_i, ct_r, ct_n, ct_f, rf_s, rf_n, tl_s, tl_n, true_and, and_true, eq_self, and_self, Nat.reduceAdd, Nat.reduceLeDiff, Nat.zero_le, Nat.reduceEqDiff, or_true, true_or, false_or, or_false, if_true, if_false, gI_0, gI_1, gI_2, gI_3, gI_4, gI_5, gI_6, gI_7, gI_8, gI_9, gI_10, gI_11, gI_12, gI_13, gI_14, gI_15, gL_0, gL_1, gL_2, gL_3, gL_4, gL_5, gL_6, gL_7, gL_8, gL_9, gL_10, gL_11, gL_12, gL_13, gL_14, gL_15, gA_0, gA_1, gA_2, gA_3, gA_4, gA_5, gA_6, gA_7, gA_8, gA_9, gA_10, gA_11, gA_12, gA_13, gA_14, gA_15, p1_0, p1_1, p1_2, p1_3, p1_4, p1_5, p1_6, p1_7, p1_8, p1_9, p1_10, p1_11, p1_12, p1_13, p1_14, p1_15, p2_0, p2_1, p2_2, p2_3, p2_4, p2_5, p2_6, p2_7, p2_8, p2_9, p2_10, p2_11, p2_12, p2_13, p2_14, p2_15, b01_ok, b_ft, b_tf, b01_e0, b01_e1, lgc_0, not_true_eq_false, not_false_eq_true, K1, z, m_isPersonI M1.1 g, pe, Bool.true_eq_false, w9, m_bits, w8, ix_nI i31, nI_pos' i31, i6, i12, nI_1, eqP (show nb (vw S i) < 2 ^ 31 by omega) (show r i < 2 ^ 31 by omega)]
        by_cases e2 : nb (vw S i) = r i
        · rw [if_pos e2]
          rw [if_neg (by unfold judN; rw [decide_eq_true e, decide_eq_true e2]; decide)] at kq
          exact ih (i + 1) (by omega) kq
        · rw [if_neg e2]
          exact kq (some i) (by rw [if_pos (by unfold judN; rw [decide_eq_true e, decide_eq_false e2]; rfl)])
      · have pe : isPI S (nI i) = false := by rw [isPI_nI g i31]; exact decide_eq_false e
        simp only [s254_13, s254_14, s254_17, s254_18, s254_19, s254_22, s254_25, s254_26, s254_29, s254_30, s254_31, s254_34, s254_35, s254_38, s254_39, s254_40, s254_43, s254_44, s254_45, s254_48, s254_51, s254_53, oB_some, cl2_i, cl2_r, cl2_l, cl2_u, cl2_s, wd_0, wd_i, wd_r, wd_l, wd_f, ct_i, ct_r, ct_n, ct_f, rf_s, rf_n, tl_s, tl_n, true_and, and_true, eq_self, and_self, Nat.reduceAdd, Nat.reduceLeDiff, Nat.zero_le, Nat.reduceEqDiff, or_true, true_or, false_or, or_false, if_true, if_false, gI_0, gI_1, gI_2, gI_3, gI_4, gI_5, gI_6, gI_7, gI_8, gI_9, gI_10, gI_11, gI_12, gI_13, gI_14, gI_15, gL_0, gL_1, gL_2, gL_3, gL_4, gL_5, gL_6, gL_7, gL_8, gL_9, gL_10, gL_11, gL_12, gL_13, gL_14, gL_15, gA_0, gA_1, gA_2, gA_3, gA_4, gA_5, gA_6, gA_7, gA_8, gA_9, gA_10, gA_11, gA_12, gA_13, gA_14, gA_15, p1_0, p1_1, p1_2, p1_3, p1_4, p1_5, p1_6, p1_7, p1_8, p1_9, p1_10, p1_11, p1_12, p1_13, p1_14, p1_15, p2_0, p2_1, p2_2, p2_3, p2_4, p2_5, p2_6, p2_7, p2_8, p2_9, p2_10, p2_11, p2_12, p2_13, p2_14, p2_15, b01_ok, b_ft, b_tf, b01_e0, b01_e1, lgc_0, not_true_eq_false, not_false_eq_true, K1, z, m_isPersonI M1.1 g, pe]
        exact kq (some i) (by rw [if_pos (by unfold judN; rw [decide_eq_false e]; rfl)])
  simp only [e254, s254_0, s254_1, s254_4, s254_5, s254_6, s254_7, s254_10, s254_11, oB_some, cl2_i, cl2_r, cl2_l, cl2_u, cl2_s, wd_0, wd_i, wd_r, wd_l, wd_f, ct_i, ct_r, ct_n, ct_f, rf_s, rf_n, tl_s, tl_n, true_and, and_true, eq_self, and_self, Nat.reduceAdd, Nat.reduceLeDiff, Nat.zero_le, Nat.reduceEqDiff, or_true, true_or, false_or, or_false, if_true, if_false, gI_0, gI_1, gI_2, gI_3, gI_4, gI_5, gI_6, gI_7, gI_8, gI_9, gI_10, gI_11, gI_12, gI_13, gI_14, gI_15, gL_0, gL_1, gL_2, gL_3, gL_4, gL_5, gL_6, gL_7, gL_8, gL_9, gL_10, gL_11, gL_12, gL_13, gL_14, gL_15, gA_0, gA_1, gA_2, gA_3, gA_4, gA_5, gA_6, gA_7, gA_8, gA_9, gA_10, gA_11, gA_12, gA_13, gA_14, gA_15, p1_0, p1_1, p1_2, p1_3, p1_4, p1_5, p1_6, p1_7, p1_8, p1_9, p1_10, p1_11, p1_12, p1_13, p1_14, p1_15, p2_0, p2_1, p2_2, p2_3, p2_4, p2_5, p2_6, p2_7, p2_8, p2_9, p2_10, p2_11, p2_12, p2_13, p2_14, p2_15, b01_ok, b_ft, b_tf, b01_e0, b01_e1, lgc_0, not_true_eq_false, not_false_eq_true, z_hkd_sI, z_hln_sI, z_hL_sI, z_hR_sI, z_hnx_sI, z_hkd_sL, z_hln_sL, z_hI_sL, z_hR_sL, z_hnx_sL, z_hkd_sR, z_hln_sR, z_hI_sR, z_hL_sR, z_hnx_sR, z_hkd_cI, z_hln_cI, z_hL_cI, z_hR_cI, z_hnx_cI, z_hkd_cLg, z_hln_cLg, z_hI_cLg, z_hR_cLg, z_hnx_cLg, K, w5]
  exact loop len 0 (by omega) fun q hq => by rw [hq] at kk; exact kk
set_option maxHeartbeats 8000000 in
theorem o_count {w : Int32} {d tl len : Nat} {tp r : Nat → Nat} {Q : PQ} {h : HP} {m : Nat} {S : VS} {H : HS} (C : MI h m S H tp tl r len) (gS : GV S) (gH : GH H)
    (rf : Nat → Int32) (hrf : ∀ j, j < 6 → rf j = hI h (m + 1) (j + 1)) (k : Q (some (.int (aCount S (hc H) tl len rf w))) h) : Ev (d + 4) 269 [.ref m, .int w] h Q := by
  have M := C.1
  have g := gS.1
  have hy := gS.2
  have K := M.1.k
  unfold MK at K
  have gn := g.n
  have gl := g.l
  have T := C.2.2.1
  have w5 := C.2.2.2.1
  have p2 := C.2.1.1.2
  unfold aCount at k
  by_cases e0 : w = 0
  · subst e0
    have nin : ¬ (11 : Int32) ≤ 0 := by decide
    simp only [e269, s269_0, s269_1, s269_3, s269_5, s269_8, s269_11, s269_12, s269_15, s269_16, s269_18, s269_19, s269_20, s269_21, s269_22, s269_80, s269_81, s269_84, s269_85, s269_86, s269_89, s269_90, s269_91, s269_94, s269_95, s269_96, s269_99, s269_100, s269_101, s269_104, s269_105, s269_106, s269_109, s269_110, s269_111, s269_114, s269_117, s269_118, s269_119, s269_122, s269_125, s269_126, s269_127, s269_130, s269_131, s269_132, s269_135, s269_136, s269_137, s269_140, s269_141, s269_143, oB_some, cl2_i, cl2_r, cl2_l, cl2_u, cl2_s, wd_0, wd_i, wd_r, wd_l, wd_f, ct_i, ct_r, ct_n, ct_f, rf_s, rf_n, tl_s, tl_n, true_and, and_true, eq_self, and_self, Nat.reduceAdd, Nat.reduceLeDiff, Nat.zero_le, Nat.reduceEqDiff, or_true, true_or, false_or, or_false, if_true, if_false, gI_0, gI_1, gI_2, gI_3, gI_4, gI_5, gI_6, gI_7, gI_8, gI_9, gI_10, gI_11, gI_12, gI_13, gI_14, gI_15, gL_0, gL_1, gL_2, gL_3, gL_4, gL_5, gL_6, gL_7, gL_8, gL_9, gL_10, gL_11, gL_12, gL_13, gL_14, gL_15, gA_0, gA_1, gA_2, gA_3, gA_4, gA_5, gA_6, gA_7, gA_8, gA_9, gA_10, gA_11, gA_12, gA_13, gA_14, gA_15, p1_0, p1_1, p1_2, p1_3, p1_4, p1_5, p1_6, p1_7, p1_8, p1_9, p1_10, p1_11, p1_12, p1_13, p1_14, p1_15, p2_0, p2_1, p2_2, p2_3, p2_4, p2_5, p2_6, p2_7, p2_8, p2_9, p2_10, p2_11, p2_12, p2_13, p2_14, p2_15, b01_ok, b_ft, b_tf, b01_e0, b01_e1, lgc_0, not_true_eq_false, not_false_eq_true, K, m_isIn, nin, false_and, decide_false, M.1.n, M.1.y, M.1.u, M.1.d, M.1.t, M.1.m, M.1.s, M.1.o, m_bits, T.1, w5, p2, nz_0]
    exact k
  · rw [if_neg e0] at k
    by_cases e1 : w = 1
    · subst e1
      have nin : ¬ (11 : Int32) ≤ 1 := by decide
      simp only [e269, s269_0, s269_1, s269_3, s269_5, s269_8, s269_11, s269_12, s269_15, s269_16, s269_18, s269_19, s269_20, s269_21, s269_22, s269_80, s269_81, s269_84, s269_85, s269_86, s269_89, s269_90, s269_91, s269_94, s269_95, s269_96, s269_99, s269_100, s269_101, s269_104, s269_105, s269_106, s269_109, s269_110, s269_111, s269_114, s269_117, s269_118, s269_119, s269_122, s269_125, s269_126, s269_127, s269_130, s269_131, s269_132, s269_135, s269_136, s269_137, s269_140, s269_141, s269_143, oB_some, cl2_i, cl2_r, cl2_l, cl2_u, cl2_s, wd_0, wd_i, wd_r, wd_l, wd_f, ct_i, ct_r, ct_n, ct_f, rf_s, rf_n, tl_s, tl_n, true_and, and_true, eq_self, and_self, Nat.reduceAdd, Nat.reduceLeDiff, Nat.zero_le, Nat.reduceEqDiff, or_true, true_or, false_or, or_false, if_true, if_false, gI_0, gI_1, gI_2, gI_3, gI_4, gI_5, gI_6, gI_7, gI_8, gI_9, gI_10, gI_11, gI_12, gI_13, gI_14, gI_15, gL_0, gL_1, gL_2, gL_3, gL_4, gL_5, gL_6, gL_7, gL_8, gL_9, gL_10, gL_11, gL_12, gL_13, gL_14, gL_15, gA_0, gA_1, gA_2, gA_3, gA_4, gA_5, gA_6, gA_7, gA_8, gA_9, gA_10, gA_11, gA_12, gA_13, gA_14, gA_15, p1_0, p1_1, p1_2, p1_3, p1_4, p1_5, p1_6, p1_7, p1_8, p1_9, p1_10, p1_11, p1_12, p1_13, p1_14, p1_15, p2_0, p2_1, p2_2, p2_3, p2_4, p2_5, p2_6, p2_7, p2_8, p2_9, p2_10, p2_11, p2_12, p2_13, p2_14, p2_15, b01_ok, b_ft, b_tf, b01_e0, b01_e1, lgc_0, not_true_eq_false, not_false_eq_true, K, m_isIn, nin, false_and, decide_false, M.1.n, M.1.y, M.1.u, M.1.d, M.1.t, M.1.m, M.1.s, M.1.o, m_bits, T.1, w5, p2, nz_1]
      exact k
    · rw [if_neg e1] at k
      by_cases e2 : w = 2
      · subst e2
        have nin : ¬ (11 : Int32) ≤ 2 := by decide
        simp only [e269, s269_0, s269_1, s269_3, s269_5, s269_8, s269_11, s269_12, s269_15, s269_16, s269_18, s269_19, s269_20, s269_21, s269_22, s269_80, s269_81, s269_84, s269_85, s269_86, s269_89, s269_90, s269_91, s269_94, s269_95, s269_96, s269_99, s269_100, s269_101, s269_104, s269_105, s269_106, s269_109, s269_110, s269_111, s269_114, s269_117, s269_118, s269_119, s269_122, s269_125, s269_126, s269_127, s269_130, s269_131, s269_132, s269_135, s269_136, s269_137, s269_140, s269_141, s269_143, oB_some, cl2_i, cl2_r, cl2_l, cl2_u, cl2_s, wd_0, wd_i, wd_r, wd_l, wd_f, ct_i, ct_r, ct_n, ct_f, rf_s, rf_n, tl_s, tl_n, true_and, and_true, eq_self, and_self, Nat.reduceAdd, Nat.reduceLeDiff, Nat.zero_le, Nat.reduceEqDiff, or_true, true_or, false_or, or_false, if_true, if_false, gI_0, gI_1, gI_2, gI_3, gI_4, gI_5, gI_6, gI_7, gI_8, gI_9, gI_10, gI_11, gI_12, gI_13, gI_14, gI_15, gL_0, gL_1, gL_2, gL_3, gL_4, gL_5, gL_6, gL_7, gL_8, gL_9, gL_10, gL_11, gL_12, gL_13, gL_14, gL_15, gA_0, gA_1, gA_2, gA_3, gA_4, gA_5, gA_6, gA_7, gA_8, gA_9, gA_10, gA_11, gA_12, gA_13, gA_14, gA_15, p1_0, p1_1, p1_2, p1_3, p1_4, p1_5, p1_6, p1_7, p1_8, p1_9, p1_10, p1_11, p1_12, p1_13, p1_14, p1_15, p2_0, p2_1, p2_2, p2_3, p2_4, p2_5, p2_6, p2_7, p2_8, p2_9, p2_10, p2_11, p2_12, p2_13, p2_14, p2_15, b01_ok, b_ft, b_tf, b01_e0, b01_e1, lgc_0, not_true_eq_false, not_false_eq_true, K, m_isIn, nin, false_and, decide_false, M.1.n, M.1.y, M.1.u, M.1.d, M.1.t, M.1.m, M.1.s, M.1.o, m_bits, T.1, w5, p2, nz_2]
        exact k
      · rw [if_neg e2] at k
        by_cases e3 : w = 3
        · subst e3
          have nin : ¬ (11 : Int32) ≤ 3 := by decide
          simp only [e269, s269_0, s269_1, s269_3, s269_5, s269_8, s269_11, s269_12, s269_15, s269_16, s269_18, s269_19, s269_20, s269_21, s269_22, s269_80, s269_81, s269_84, s269_85, s269_86, s269_89, s269_90, s269_91, s269_94, s269_95, s269_96, s269_99, s269_100, s269_101, s269_104, s269_105, s269_106, s269_109, s269_110, s269_111, s269_114, s269_117, s269_118, s269_119, s269_122, s269_125, s269_126, s269_127, s269_130, s269_131, s269_132, s269_135, s269_136, s269_137, s269_140, s269_141, s269_143, oB_some, cl2_i, cl2_r, cl2_l, cl2_u, cl2_s, wd_0, wd_i, wd_r, wd_l, wd_f, ct_i, ct_r, ct_n, ct_f, rf_s, rf_n, tl_s, tl_n, true_and, and_true, eq_self, and_self, Nat.reduceAdd, Nat.reduceLeDiff, Nat.zero_le, Nat.reduceEqDiff, or_true, true_or, false_or, or_false, if_true, if_false, gI_0, gI_1, gI_2, gI_3, gI_4, gI_5, gI_6, gI_7, gI_8, gI_9, gI_10, gI_11, gI_12, gI_13, gI_14, gI_15, gL_0, gL_1, gL_2, gL_3, gL_4, gL_5, gL_6, gL_7, gL_8, gL_9, gL_10, gL_11, gL_12, gL_13, gL_14, gL_15, gA_0, gA_1, gA_2, gA_3, gA_4, gA_5, gA_6, gA_7, gA_8, gA_9, gA_10, gA_11, gA_12, gA_13, gA_14, gA_15, p1_0, p1_1, p1_2, p1_3, p1_4, p1_5, p1_6, p1_7, p1_8, p1_9, p1_10, p1_11, p1_12, p1_13, p1_14, p1_15, p2_0, p2_1, p2_2, p2_3, p2_4, p2_5, p2_6, p2_7, p2_8, p2_9, p2_10, p2_11, p2_12, p2_13, p2_14, p2_15, b01_ok, b_ft, b_tf, b01_e0, b01_e1, lgc_0, not_true_eq_false, not_false_eq_true, K, m_isIn, nin, false_and, decide_false, M.1.n, M.1.y, M.1.u, M.1.d, M.1.t, M.1.m, M.1.s, M.1.o, m_bits, T.1, w5, p2, nz_3]
          exact k
        · rw [if_neg e3] at k
          by_cases e4 : w = 4
          · subst e4
            have nin : ¬ (11 : Int32) ≤ 4 := by decide
            simp only [e269, s269_0, s269_1, s269_3, s269_5, s269_8, s269_11, s269_12, s269_15, s269_16, s269_18, s269_19, s269_20, s269_21, s269_22, s269_80, s269_81, s269_84, s269_85, s269_86, s269_89, s269_90, s269_91, s269_94, s269_95, s269_96, s269_99, s269_100, s269_101, s269_104, s269_105, s269_106, s269_109, s269_110, s269_111, s269_114, s269_117, s269_118, s269_119, s269_122, s269_125, s269_126, s269_127, s269_130, s269_131, s269_132, s269_135, s269_136, s269_137, s269_140, s269_141, s269_143, oB_some, cl2_i, cl2_r, cl2_l, cl2_u, cl2_s, wd_0, wd_i, wd_r, wd_l, wd_f, ct_i, ct_r, ct_n, ct_f, rf_s, rf_n, tl_s, tl_n, true_and, and_true, eq_self, and_self, Nat.reduceAdd, Nat.reduceLeDiff, Nat.zero_le, Nat.reduceEqDiff, or_true, true_or, false_or, or_false, if_true, if_false, gI_0, gI_1, gI_2, gI_3, gI_4, gI_5, gI_6, gI_7, gI_8, gI_9, gI_10, gI_11, gI_12, gI_13, gI_14, gI_15, gL_0, gL_1, gL_2, gL_3, gL_4, gL_5, gL_6, gL_7, gL_8, gL_9, gL_10, gL_11, gL_12, gL_13, gL_14, gL_15, gA_0, gA_1, gA_2, gA_3, gA_4, gA_5, gA_6, gA_7, gA_8, gA_9, gA_10, gA_11, gA_12, gA_13, gA_14, gA_15, p1_0, p1_1, p1_2, p1_3, p1_4, p1_5, p1_6, p1_7, p1_8, p1_9, p1_10, p1_11, p1_12, p1_13, p1_14, p1_15, p2_0, p2_1, p2_2, p2_3, p2_4, p2_5, p2_6, p2_7, p2_8, p2_9, p2_10, p2_11, p2_12, p2_13, p2_14, p2_15, b01_ok, b_ft, b_tf, b01_e0, b01_e1, lgc_0, not_true_eq_false, not_false_eq_true, K, m_isIn, nin, false_and, decide_false, M.1.n, M.1.y, M.1.u, M.1.d, M.1.t, M.1.m, M.1.s, M.1.o, m_bits, T.1, w5, p2, nz_4]
            exact k
          · rw [if_neg e4] at k
            by_cases e5 : w = 5
            · subst e5
              have nin : ¬ (11 : Int32) ≤ 5 := by decide
              simp only [e269, s269_0, s269_1, s269_3, s269_5, s269_8, s269_11, s269_12, s269_15, s269_16, s269_18, s269_19, s269_20, s269_21, s269_22, s269_80, s269_81, s269_84, s269_85, s269_86, s269_89, s269_90, s269_91, s269_94, s269_95, s269_96, s269_99, s269_100, s269_101, s269_104, s269_105, s269_106, s269_109, s269_110, s269_111, s269_114, s269_117, s269_118, s269_119, s269_122, s269_125, s269_126, s269_127, s269_130, s269_131, s269_132, s269_135, s269_136, s269_137, s269_140, s269_141, s269_143, oB_some, cl2_i, cl2_r, cl2_l, cl2_u, cl2_s, wd_0, wd_i, wd_r, wd_l, wd_f, ct_i, ct_r, ct_n, ct_f, rf_s, rf_n, tl_s, tl_n, true_and, and_true, eq_self, and_self, Nat.reduceAdd, Nat.reduceLeDiff, Nat.zero_le, Nat.reduceEqDiff, or_true, true_or, false_or, or_false, if_true, if_false, gI_0, gI_1, gI_2, gI_3, gI_4, gI_5, gI_6, gI_7, gI_8, gI_9, gI_10, gI_11, gI_12, gI_13, gI_14, gI_15, gL_0, gL_1, gL_2, gL_3, gL_4, gL_5, gL_6, gL_7, gL_8, gL_9, gL_10, gL_11, gL_12, gL_13, gL_14, gL_15, gA_0, gA_1, gA_2, gA_3, gA_4, gA_5, gA_6, gA_7, gA_8, gA_9, gA_10, gA_11, gA_12, gA_13, gA_14, gA_15, p1_0, p1_1, p1_2, p1_3, p1_4, p1_5, p1_6, p1_7, p1_8, p1_9, p1_10, p1_11, p1_12, p1_13, p1_14, p1_15, p2_0, p2_1, p2_2, p2_3, p2_4, p2_5, p2_6, p2_7, p2_8, p2_9, p2_10, p2_11, p2_12, p2_13, p2_14, p2_15, b01_ok, b_ft, b_tf, b01_e0, b01_e1, lgc_0, not_true_eq_false, not_false_eq_true, K, m_isIn, nin, false_and, decide_false, M.1.n, M.1.y, M.1.u, M.1.d, M.1.t, M.1.m, M.1.s, M.1.o, m_bits, T.1, w5, p2, nz_5]
              exact k
            · rw [if_neg e5] at k
              by_cases e6 : w = 6
              · subst e6
                have nin : ¬ (11 : Int32) ≤ 6 := by decide
                simp only [e269, s269_0, s269_1, s269_3, s269_5, s269_8, s269_11, s269_12, s269_15, s269_16, s269_18, s269_19, s269_20, s269_21, s269_22, s269_80, s269_81, s269_84, s269_85, s269_86, s269_89, s269_90, s269_91, s269_94, s269_95, s269_96, s269_99, s269_100, s269_101, s269_104, s269_105, s269_106, s269_109, s269_110, s269_111, s269_114, s269_117, s269_118, s269_119, s269_122, s269_125, s269_126, s269_127, s269_130, s269_131, s269_132, s269_135, s269_136, s269_137, s269_140, s269_141, s269_143, oB_some, cl2_i, cl2_r, cl2_l, cl2_u, cl2_s, wd_0, wd_i, wd_r, wd_l, wd_f, ct_i, ct_r, ct_n, ct_f, rf_s, rf_n, tl_s, tl_n, true_and, and_true, eq_self, and_self, Nat.reduceAdd, Nat.reduceLeDiff, Nat.zero_le, Nat.reduceEqDiff, or_true, true_or, false_or, or_false, if_true, if_false, gI_0, gI_1, gI_2, gI_3, gI_4, gI_5, gI_6, gI_7, gI_8, gI_9, gI_10, gI_11, gI_12, gI_13, gI_14, gI_15, gL_0, gL_1, gL_2, gL_3, gL_4, gL_5, gL_6, gL_7, gL_8, gL_9, gL_10, gL_11, gL_12, gL_13, gL_14, gL_15, gA_0, gA_1, gA_2, gA_3, gA_4, gA_5, gA_6, gA_7, gA_8, gA_9, gA_10, gA_11, gA_12, gA_13, gA_14, gA_15, p1_0, p1_1, p1_2, p1_3, p1_4, p1_5, p1_6, p1_7, p1_8, p1_9, p1_10, p1_11, p1_12, p1_13, p1_14, p1_15, p2_0, p2_1, p2_2, p2_3, p2_4, p2_5, p2_6, p2_7, p2_8, p2_9, p2_10, p2_11, p2_12, p2_13, p2_14, p2_15, b01_ok, b_ft, b_tf, b01_e0, b01_e1, lgc_0, not_true_eq_false, not_false_eq_true, K, m_isIn, nin, false_and, decide_false, M.1.n, M.1.y, M.1.u, M.1.d, M.1.t, M.1.m, M.1.s, M.1.o, m_bits, T.1, w5, p2, nz_6]
                exact k
              · rw [if_neg e6] at k
                by_cases e7 : w = 7
                · subst e7
                  have nin : ¬ (11 : Int32) ≤ 7 := by decide
                  simp only [e269, s269_0, s269_1, s269_3, s269_5, s269_8, s269_11, s269_12, s269_15, s269_16, s269_18, s269_19, s269_20, s269_21, s269_22, s269_80, s269_81, s269_84, s269_85, s269_86, s269_89, s269_90, s269_91, s269_94, s269_95, s269_96, s269_99, s269_100, s269_101, s269_104, s269_105, s269_106, s269_109, s269_110, s269_111, s269_114, s269_117, s269_118, s269_119, s269_122, s269_125, s269_126, s269_127, s269_130, s269_131, s269_132, s269_135, s269_136, s269_137, s269_140, s269_141, s269_143, oB_some, cl2_i, cl2_r, cl2_l, cl2_u, cl2_s, wd_0, wd_i, wd_r, wd_l, wd_f, ct_i, ct_r, ct_n, ct_f, rf_s, rf_n, tl_s, tl_n, true_and, and_true, eq_self, and_self, Nat.reduceAdd, Nat.reduceLeDiff, Nat.zero_le, Nat.reduceEqDiff, or_true, true_or, false_or, or_false, if_true, if_false, gI_0, gI_1, gI_2, gI_3, gI_4, gI_5, gI_6, gI_7, gI_8, gI_9, gI_10, gI_11, gI_12, gI_13, gI_14, gI_15, gL_0, gL_1, gL_2, gL_3, gL_4, gL_5, gL_6, gL_7, gL_8, gL_9, gL_10, gL_11, gL_12, gL_13, gL_14, gL_15, gA_0, gA_1, gA_2, gA_3, gA_4, gA_5, gA_6, gA_7, gA_8, gA_9, gA_10, gA_11, gA_12, gA_13, gA_14, gA_15, p1_0, p1_1, p1_2, p1_3, p1_4, p1_5, p1_6, p1_7, p1_8, p1_9, p1_10, p1_11, p1_12, p1_13, p1_14, p1_15, p2_0, p2_1, p2_2, p2_3, p2_4, p2_5, p2_6, p2_7, p2_8, p2_9, p2_10, p2_11, p2_12, p2_13, p2_14, p2_15, b01_ok, b_ft, b_tf, b01_e0, b01_e1, lgc_0, not_true_eq_false, not_false_eq_true, K, m_isIn, nin, false_and, decide_false, M.1.n, M.1.y, M.1.u, M.1.d, M.1.t, M.1.m, M.1.s, M.1.o, m_bits, T.1, w5, p2, nz_7]
                  exact k
                · rw [if_neg e7] at k
                  by_cases e8 : w = 8
                  · subst e8
                    have nin : ¬ (11 : Int32) ≤ 8 := by decide
                    simp only [e269, s269_0, s269_1, s269_3, s269_5, s269_8, s269_11, s269_12, s269_15, s269_16, s269_18, s269_19, s269_20, s269_21, s269_22, s269_80, s269_81, s269_84, s269_85, s269_86, s269_89, s269_90, s269_91, s269_94, s269_95, s269_96, s269_99, s269_100, s269_101, s269_104, s269_105, s269_106, s269_109, s269_110, s269_111, s269_114, s269_117, s269_118, s269_119, s269_122, s269_125, s269_126, s269_127, s269_130, s269_131, s269_132, s269_135, s269_136, s269_137, s269_140, s269_141, s269_143, oB_some, cl2_i, cl2_r, cl2_l, cl2_u, cl2_s, wd_0, wd_i, wd_r, wd_l, wd_f, ct_i, ct_r, ct_n, ct_f, rf_s, rf_n, tl_s, tl_n, true_and, and_true, eq_self, and_self, Nat.reduceAdd, Nat.reduceLeDiff, Nat.zero_le, Nat.reduceEqDiff, or_true, true_or, false_or, or_false, if_true, if_false, gI_0, gI_1, gI_2, gI_3, gI_4, gI_5, gI_6, gI_7, gI_8, gI_9, gI_10, gI_11, gI_12, gI_13, gI_14, gI_15, gL_0, gL_1, gL_2, gL_3, gL_4, gL_5, gL_6, gL_7, gL_8, gL_9, gL_10, gL_11, gL_12, gL_13, gL_14, gL_15, gA_0, gA_1, gA_2, gA_3, gA_4, gA_5, gA_6, gA_7, gA_8, gA_9, gA_10, gA_11, gA_12, gA_13, gA_14, gA_15, p1_0, p1_1, p1_2, p1_3, p1_4, p1_5, p1_6, p1_7, p1_8, p1_9, p1_10, p1_11, p1_12, p1_13, p1_14, p1_15, p2_0, p2_1, p2_2, p2_3, p2_4, p2_5, p2_6, p2_7, p2_8, p2_9, p2_10, p2_11, p2_12, p2_13, p2_14, p2_15, b01_ok, b_ft, b_tf, b01_e0, b01_e1, lgc_0, not_true_eq_false, not_false_eq_true, K, m_isIn, nin, false_and, decide_false, M.1.n, M.1.y, M.1.u, M.1.d, M.1.t, M.1.m, M.1.s, M.1.o, m_bits, T.1, w5, p2, nz_8]
                    exact k
                  · rw [if_neg e8] at k
                    by_cases e9 : w = 9
                    · subst e9
                      have nin : ¬ (11 : Int32) ≤ 9 := by decide
                      simp only [e269, s269_0, s269_1, s269_3, s269_5, s269_8, s269_11, s269_12, s269_15, s269_16, s269_18, s269_19, s269_20, s269_21, s269_22, s269_80, s269_81, s269_84, s269_85, s269_86, s269_89, s269_90, s269_91, s269_94, s269_95, s269_96, s269_99, s269_100, s269_101, s269_104, s269_105, s269_106, s269_109, s269_110, s269_111, s269_114, s269_117, s269_118, s269_119, s269_122, s269_125, s269_126, s269_127, s269_130, s269_131, s269_132, s269_135, s269_136, s269_137, s269_140, s269_141, s269_143, oB_some, cl2_i, cl2_r, cl2_l, cl2_u, cl2_s, wd_0, wd_i, wd_r, wd_l, wd_f, ct_i, ct_r, ct_n, ct_f, rf_s, rf_n, tl_s, tl_n, true_and, and_true, eq_self, and_self, Nat.reduceAdd, Nat.reduceLeDiff, Nat.zero_le, Nat.reduceEqDiff, or_true, true_or, false_or, or_false, if_true, if_false, gI_0, gI_1, gI_2, gI_3, gI_4, gI_5, gI_6, gI_7, gI_8, gI_9, gI_10, gI_11, gI_12, gI_13, gI_14, gI_15, gL_0, gL_1, gL_2, gL_3, gL_4, gL_5, gL_6, gL_7, gL_8, gL_9, gL_10, gL_11, gL_12, gL_13, gL_14, gL_15, gA_0, gA_1, gA_2, gA_3, gA_4, gA_5, gA_6, gA_7, gA_8, gA_9, gA_10, gA_11, gA_12, gA_13, gA_14, gA_15, p1_0, p1_1, p1_2, p1_3, p1_4, p1_5, p1_6, p1_7, p1_8, p1_9, p1_10, p1_11, p1_12, p1_13, p1_14, p1_15, p2_0, p2_1, p2_2, p2_3, p2_4, p2_5, p2_6, p2_7, p2_8, p2_9, p2_10, p2_11, p2_12, p2_13, p2_14, p2_15, b01_ok, b_ft, b_tf, b01_e0, b01_e1, lgc_0, not_true_eq_false, not_false_eq_true, K, m_isIn, nin, false_and, decide_false, M.1.n, M.1.y, M.1.u, M.1.d, M.1.t, M.1.m, M.1.s, M.1.o, m_bits, T.1, w5, p2, nz_9]
                      exact k
                    · rw [if_neg e9] at k
                      by_cases e10 : w = 10
                      · subst e10
                        have nin : ¬ (11 : Int32) ≤ 10 := by decide
                        simp only [e269, s269_0, s269_1, s269_3, s269_5, s269_8, s269_11, s269_12, s269_15, s269_16, s269_18, s269_19, s269_20, s269_21, s269_22, s269_80, s269_81, s269_84, s269_85, s269_86, s269_89, s269_90, s269_91, s269_94, s269_95, s269_96, s269_99, s269_100, s269_101, s269_104, s269_105, s269_106, s269_109, s269_110, s269_111, s269_114, s269_117, s269_118, s269_119, s269_122, s269_125, s269_126, s269_127, s269_130, s269_131, s269_132, s269_135, s269_136, s269_137, s269_140, s269_141, s269_143, oB_some, cl2_i, cl2_r, cl2_l, cl2_u, cl2_s, wd_0, wd_i, wd_r, wd_l, wd_f, ct_i, ct_r, ct_n, ct_f, rf_s, rf_n, tl_s, tl_n, true_and, and_true, eq_self, and_self, Nat.reduceAdd, Nat.reduceLeDiff, Nat.zero_le, Nat.reduceEqDiff, or_true, true_or, false_or, or_false, if_true, if_false, gI_0, gI_1, gI_2, gI_3, gI_4, gI_5, gI_6, gI_7, gI_8, gI_9, gI_10, gI_11, gI_12, gI_13, gI_14, gI_15, gL_0, gL_1, gL_2, gL_3, gL_4, gL_5, gL_6, gL_7, gL_8, gL_9, gL_10, gL_11, gL_12, gL_13, gL_14, gL_15, gA_0, gA_1, gA_2, gA_3, gA_4, gA_5, gA_6, gA_7, gA_8, gA_9, gA_10, gA_11, gA_12, gA_13, gA_14, gA_15, p1_0, p1_1, p1_2, p1_3, p1_4, p1_5, p1_6, p1_7, p1_8, p1_9, p1_10, p1_11, p1_12, p1_13, p1_14, p1_15, p2_0, p2_1, p2_2, p2_3, p2_4, p2_5, p2_6, p2_7, p2_8, p2_9, p2_10, p2_11, p2_12, p2_13, p2_14, p2_15, b01_ok, b_ft, b_tf, b01_e0, b01_e1, lgc_0, not_true_eq_false, not_false_eq_true, K, m_isIn, nin, false_and, decide_false, M.1.n, M.1.y, M.1.u, M.1.d, M.1.t, M.1.m, M.1.s, M.1.o, m_bits, T.1, w5, p2, nz_10]
                        exact k
                      · rw [if_neg e10] at k
                        by_cases f1 : w < 11
                        · rw [if_pos f1] at k
                          have nin := Int32.not_le.mpr f1
                          simp only [e269, s269_0, s269_1, s269_3, s269_5, s269_8, s269_11, s269_12, s269_15, s269_16, s269_18, s269_19, s269_20, s269_21, s269_22, s269_80, s269_81, s269_84, s269_85, s269_86, s269_89, s269_90, s269_91, s269_94, s269_95, s269_96, s269_99, s269_100, s269_101, s269_104, s269_105, s269_106, s269_109, s269_110, s269_111, s269_114, s269_117, s269_118, s269_119, s269_122, s269_125, s269_126, s269_127, s269_130, s269_131, s269_132, s269_135, s269_136, s269_137, s269_140, s269_141, s269_143, oB_some, cl2_i, cl2_r, cl2_l, cl2_u, cl2_s, wd_0, wd_i, wd_r, wd_l, wd_f, ct_i, ct_r, ct_n, ct_f, rf_s, rf_n, tl_s, tl_n, true_and, and_true, eq_self, and_self, Nat.reduceAdd, Nat.reduceLeDiff, Nat.zero_le, Nat.reduceEqDiff, or_true, true_or, false_or, or_false, if_true, if_false, gI_0, gI_1, gI_2, gI_3, gI_4, gI_5, gI_6, gI_7, gI_8, gI_9, gI_10, gI_11, gI_12, gI_13, gI_14, gI_15, gL_0, gL_1, gL_2, gL_3, gL_4, gL_5, gL_6, gL_7, gL_8, gL_9, gL_10, gL_11, gL_12, gL_13, gL_14, gL_15, gA_0, gA_1, gA_2, gA_3, gA_4, gA_5, gA_6, gA_7, gA_8, gA_9, gA_10, gA_11, gA_12, gA_13, gA_14, gA_15, p1_0, p1_1, p1_2, p1_3, p1_4, p1_5, p1_6, p1_7, p1_8, p1_9, p1_10, p1_11, p1_12, p1_13, p1_14, p1_15, p2_0, p2_1, p2_2, p2_3, p2_4, p2_5, p2_6, p2_7, p2_8, p2_9, p2_10, p2_11, p2_12, p2_13, p2_14, p2_15, b01_ok, b_ft, b_tf, b01_e0, b01_e1, lgc_0, not_true_eq_false, not_false_eq_true, K, m_isIn, nin, false_and, decide_false, e0, e1, e2, e3, e4, e5, e6, e7, e8, e9, e10]
                          exact k
                        · rw [if_neg f1] at k
                          by_cases f2 : 16 < w
                          · rw [if_pos f2] at k
                            have nin := Int32.not_le.mpr f2
                            simp only [e269, s269_0, s269_1, s269_3, s269_5, s269_8, s269_11, s269_12, s269_15, s269_16, s269_18, s269_19, s269_20, s269_21, s269_22, s269_80, s269_81, s269_84, s269_85, s269_86, s269_89, s269_90, s269_91, s269_94, s269_95, s269_96, s269_99, s269_100, s269_101, s269_104, s269_105, s269_106, s269_109, s269_110, s269_111, s269_114, s269_117, s269_118, s269_119, s269_122, s269_125, s269_126, s269_127, s269_130, s269_131, s269_132, s269_135, s269_136, s269_137, s269_140, s269_141, s269_143, oB_some, cl2_i, cl2_r, cl2_l, cl2_u, cl2_s, wd_0, wd_i, wd_r, wd_l, wd_f, ct_i, ct_r, ct_n, ct_f, rf_s, rf_n, tl_s, tl_n, true_and, and_true, eq_self, and_self, Nat.reduceAdd, Nat.reduceLeDiff, Nat.zero_le, Nat.reduceEqDiff, or_true, true_or, false_or, or_false, if_true, if_false, gI_0, gI_1, gI_2, gI_3, gI_4, gI_5, gI_6, gI_7, gI_8, gI_9, gI_10, gI_11, gI_12, gI_13, gI_14, gI_15, gL_0, gL_1, gL_2, gL_3, gL_4, gL_5, gL_6, gL_7, gL_8, gL_9, gL_10, gL_11, gL_12, gL_13, gL_14, gL_15, gA_0, gA_1, gA_2, gA_3, gA_4, gA_5, gA_6, gA_7, gA_8, gA_9, gA_10, gA_11, gA_12, gA_13, gA_14, gA_15, p1_0, p1_1, p1_2, p1_3, p1_4, p1_5, p1_6, p1_7, p1_8, p1_9, p1_10, p1_11, p1_12, p1_13, p1_14, p1_15, p2_0, p2_1, p2_2, p2_3, p2_4, p2_5, p2_6, p2_7, p2_8, p2_9, p2_10, p2_11, p2_12, p2_13, p2_14, p2_15, b01_ok, b_ft, b_tf, b01_e0, b01_e1, lgc_0, not_true_eq_false, not_false_eq_true, K, m_isIn, nin, and_false, decide_false, e0, e1, e2, e3, e4, e5, e6, e7, e8, e9, e10]
                            exact k
                          · rw [if_neg f2] at k
                            have n1 := Int32.not_lt.mp f1
                            have n2 := Int32.not_lt.mp f2
                            obtain ⟨j, hj1, hj, rfl⟩ := arg11 f1 f2
                            have s10 : nI j - 10 = nI (j - 10) := pk_sub (b := 10) (by omega)
                            have j31 : j - 10 < 2 ^ 31 := by omega
                            have j7 : j - 10 < 7 := by omega
                            rw [tc_n (show j < 2 ^ 31 by omega), hrf (j - 11) (by omega), show j - 11 + 1 = j - 10 by omega] at k
                            simp only [e269, s269_0, s269_1, s269_3, s269_5, s269_8, s269_11, s269_12, s269_15, s269_16, s269_18, s269_19, s269_20, s269_21, s269_22, s269_80, s269_81, s269_84, s269_85, s269_86, s269_89, s269_90, s269_91, s269_94, s269_95, s269_96, s269_99, s269_100, s269_101, s269_104, s269_105, s269_106, s269_109, s269_110, s269_111, s269_114, s269_117, s269_118, s269_119, s269_122, s269_125, s269_126, s269_127, s269_130, s269_131, s269_132, s269_135, s269_136, s269_137, s269_140, s269_141, s269_143, oB_some, cl2_i, cl2_r, cl2_l, cl2_u, cl2_s, wd_0, wd_i, wd_r, wd_l, wd_f, ct_i, ct_r, ct_n, ct_f, rf_s, rf_n, tl_s, tl_n, true_and, and_true, eq_self, and_self, Nat.reduceAdd, Nat.reduceLeDiff, Nat.zero_le, Nat.reduceEqDiff, or_true, true_or, false_or, or_false, if_true, if_false, gI_0, gI_1, gI_2, gI_3, gI_4, gI_5, gI_6, gI_7, gI_8, gI_9, gI_10, gI_11, gI_12, gI_13, gI_14, gI_15, gL_0, gL_1, gL_2, gL_3, gL_4, gL_5, gL_6, gL_7, gL_8, gL_9, gL_10, gL_11, gL_12, gL_13, gL_14, gL_15, gA_0, gA_1, gA_2, gA_3, gA_4, gA_5, gA_6, gA_7, gA_8, gA_9, gA_10, gA_11, gA_12, gA_13, gA_14, gA_15, p1_0, p1_1, p1_2, p1_3, p1_4, p1_5, p1_6, p1_7, p1_8, p1_9, p1_10, p1_11, p1_12, p1_13, p1_14, p1_15, p2_0, p2_1, p2_2, p2_3, p2_4, p2_5, p2_6, p2_7, p2_8, p2_9, p2_10, p2_11, p2_12, p2_13, p2_14, p2_15, b01_ok, b_ft, b_tf, b01_e0, b01_e1, lgc_0, not_true_eq_false, not_false_eq_true, K, m_isIn, n1, n2, and_self, decide_true, Bool.true_eq_false, s10, ix_nI j31, nI_pos' j31, j7]
                            exact k
set_option maxHeartbeats 4000000 in
theorem o_back {d tl len : Nat} {tp r : Nat → Nat} {Q : PQ} {h : HP} {m : Nat} {S : VS} {H : HS} (C : MI h m S H tp tl r len) (gS : GV S) (gH : GH H)
    (kr : hc H = 0 → Q (some (.int (-3))) (RfM h m (-3)))
    (k : ¬ hc H = 0 → KM h m (topH H) (popH H) tp tl r len (Q (some (.int (nI (hc H - 1)))))) : Ev (d + 5) 143 [.ref m] h Q := by
  have M := C.1
  have g := gS.1
  have hy := gS.2
  have K := M.1.k
  unfold MK at K
  have gn := g.n
  have gl := g.l
  obtain ⟨q, ⟨⟨a1, a2⟩, a3, a4, a5⟩, t, Rw⟩ := C
  obtain ⟨⟨ho8, hc8⟩, gI, gR⟩ := gH
  have e0 : (nI (hc H) = 0) = (hc H = 0) := eq_l0 (by omega)
  by_cases e : hc H = 0
  · have n00 : nI 0 = 0 := rfl
    simp only [e143, s143_0, s143_1, s143_4, s143_7, s143_8, s143_10, s143_13, s143_14, s143_15, s143_16, s143_17, s143_20, s143_21, s143_24, s143_25, s143_26, s143_27, s143_29, s143_30, s143_31, s143_32, s143_35, s143_36, s143_37, s143_40, s143_41, s143_42, s143_45, s143_46, s143_49, oB_some, cl2_i, cl2_r, cl2_l, cl2_u, cl2_s, wd_0, wd_i, wd_r, wd_l, wd_f, ct_i, ct_r, ct_n, ct_f, rf_s, rf_n, tl_s, tl_n, true_and, and_true, eq_self, and_self, Nat.reduceAdd, Nat.reduceLeDiff, Nat.zero_le, Nat.reduceEqDiff, or_true, true_or, false_or, or_false, if_true, if_false, gI_0, gI_1, gI_2, gI_3, gI_4, gI_5, gI_6, gI_7, gI_8, gI_9, gI_10, gI_11, gI_12, gI_13, gI_14, gI_15, gL_0, gL_1, gL_2, gL_3, gL_4, gL_5, gL_6, gL_7, gL_8, gL_9, gL_10, gL_11, gL_12, gL_13, gL_14, gL_15, gA_0, gA_1, gA_2, gA_3, gA_4, gA_5, gA_6, gA_7, gA_8, gA_9, gA_10, gA_11, gA_12, gA_13, gA_14, gA_15, p1_0, p1_1, p1_2, p1_3, p1_4, p1_5, p1_6, p1_7, p1_8, p1_9, p1_10, p1_11, p1_12, p1_13, p1_14, p1_15, p2_0, p2_1, p2_2, p2_3, p2_4, p2_5, p2_6, p2_7, p2_8, p2_9, p2_10, p2_11, p2_12, p2_13, p2_14, p2_15, b01_ok, b_ft, b_tf, b01_e0, b01_e1, lgc_0, not_true_eq_false, not_false_eq_true, K, a2, e, n00, n_no3 M.1.k, not_true_eq_false]
    exact kr e
  · have s1 : nI (ho H + hc H) - 1 = nI (ho H + (hc H - 1)) := by
      have := pk_sub (a := ho H + hc H) (b := 1) (by omega)
      rw [show ho H + hc H - 1 = ho H + (hc H - 1) by omega] at this
      exact this
    have re : nI (ho H + (hc H - 1)) - nI (ho H + (hc H - 1)) / 8 * 8 = nI ((ho H + (hc H - 1)) % 8) := rem8 (by omega)
    have a3' : (3 : Int32) + nI ((ho H + (hc H - 1)) % 8) = nI (3 + (ho H + (hc H - 1)) % 8) := nI_add 3 _
    have pl8 := Nat.mod_lt (ho H + (hc H - 1)) (show 0 < 8 by decide)
    simp only [e143, s143_0, s143_1, s143_4, s143_7, s143_8, s143_10, s143_13, s143_14, s143_15, s143_16, s143_17, s143_20, s143_21, s143_24, s143_25, s143_26, s143_27, s143_29, s143_30, s143_31, s143_32, oB_some, cl2_i, cl2_r, cl2_l, cl2_u, cl2_s, wd_0, wd_i, wd_r, wd_l, wd_f, ct_i, ct_r, ct_n, ct_f, rf_s, rf_n, tl_s, tl_n, true_and, and_true, eq_self, and_self, Nat.reduceAdd, Nat.reduceLeDiff, Nat.zero_le, Nat.reduceEqDiff, or_true, true_or, false_or, or_false, if_true, if_false, gI_0, gI_1, gI_2, gI_3, gI_4, gI_5, gI_6, gI_7, gI_8, gI_9, gI_10, gI_11, gI_12, gI_13, gI_14, gI_15, gL_0, gL_1, gL_2, gL_3, gL_4, gL_5, gL_6, gL_7, gL_8, gL_9, gL_10, gL_11, gL_12, gL_13, gL_14, gL_15, gA_0, gA_1, gA_2, gA_3, gA_4, gA_5, gA_6, gA_7, gA_8, gA_9, gA_10, gA_11, gA_12, gA_13, gA_14, gA_15, p1_0, p1_1, p1_2, p1_3, p1_4, p1_5, p1_6, p1_7, p1_8, p1_9, p1_10, p1_11, p1_12, p1_13, p1_14, p1_15, p2_0, p2_1, p2_2, p2_3, p2_4, p2_5, p2_6, p2_7, p2_8, p2_9, p2_10, p2_11, p2_12, p2_13, p2_14, p2_15, b01_ok, b_ft, b_tf, b01_e0, b01_e1, lgc_0, not_true_eq_false, not_false_eq_true, K, a1, a2, e0, e, nI_add, s1, re, a3', z80, not_false_eq_true]
    refine m_allR (w := 3 + (ho H + (hc H - 1)) % 8) M.1.k (by omega) fun h1 G => ?_
    have q1 := PR.rm M.1.k (a5 (hc H - 1) (by omega)) (gR _ (by omega)).1 G
    have K1 := q1.k
    unfold MK at K1
    have b2 : hI h1 m 38 = nI (hc H) := by rw [G.2.2.2.1 38 (by decide) (by decide) (by decide) (by decide)]; exact a2
    have c1 : nI (hc H) - 1 = nI (hc H - 1) := pk_sub (b := 1) (by omega)
    have b3 : hI (sI h1 m 38 (nI (hc H - 1))) m 38 = nI (hc H - 1) := by rw [hI_sI, if_pos ⟨rfl, rfl⟩]
    simp only [s143_35, s143_36, s143_37, s143_40, s143_41, s143_42, s143_45, s143_46, s143_49, oB_some, cl2_i, cl2_r, cl2_l, cl2_u, cl2_s, wd_0, wd_i, wd_r, wd_l, wd_f, ct_i, ct_r, ct_n, ct_f, rf_s, rf_n, tl_s, tl_n, true_and, and_true, eq_self, and_self, Nat.reduceAdd, Nat.reduceLeDiff, Nat.zero_le, Nat.reduceEqDiff, or_true, true_or, false_or, or_false, if_true, if_false, gI_0, gI_1, gI_2, gI_3, gI_4, gI_5, gI_6, gI_7, gI_8, gI_9, gI_10, gI_11, gI_12, gI_13, gI_14, gI_15, gL_0, gL_1, gL_2, gL_3, gL_4, gL_5, gL_6, gL_7, gL_8, gL_9, gL_10, gL_11, gL_12, gL_13, gL_14, gL_15, gA_0, gA_1, gA_2, gA_3, gA_4, gA_5, gA_6, gA_7, gA_8, gA_9, gA_10, gA_11, gA_12, gA_13, gA_14, gA_15, p1_0, p1_1, p1_2, p1_3, p1_4, p1_5, p1_6, p1_7, p1_8, p1_9, p1_10, p1_11, p1_12, p1_13, p1_14, p1_15, p2_0, p2_1, p2_2, p2_3, p2_4, p2_5, p2_6, p2_7, p2_8, p2_9, p2_10, p2_11, p2_12, p2_13, p2_14, p2_15, b01_ok, b_ft, b_tf, b01_e0, b01_e1, lgc_0, not_true_eq_false, not_false_eq_true, z_hkd_sI, z_hln_sI, z_hL_sI, z_hR_sI, z_hnx_sI, z_hkd_sL, z_hln_sL, z_hI_sL, z_hR_sL, z_hnx_sL, z_hkd_sR, z_hln_sR, z_hI_sR, z_hL_sR, z_hnx_sR, z_hkd_cI, z_hln_cI, z_hL_cI, z_hR_cI, z_hnx_cI, z_hkd_cLg, z_hln_cLg, z_hI_cLg, z_hR_cLg, z_hnx_cLg, K1, b2, c1, b3]
    have fq := G.fq
    have gp : GH (popH H) := ⟨⟨ho8, by show hc H - 1 ≤ 8; omega⟩, gI, fun j hj => gR j (by have : j < hc H - 1 := hj; omega)⟩
    have kp : ∀ w T, KP h m w T → Good T → KP h1 m w T := fun w T p g => p.cong g (fun j hj => by rw [G.2.2.1 (m + 16) (by omega)]) (fun j hj => by rw [G.2.2.2.2.1 (m + 17) (by omega)])
    have t1 := t.fq fq
    have R1 := Rw.fq fq
    refine k e _ (fq.fm.sI (by omega) (by omega)) (by rw [hI_sI_ne (by omega), fq.2.2.1 (m + 1) (by omega)]) ⟨⟨RM_i q1 (by decide), (M.2.pr G).w (Or.inr (by decide))⟩, ⟨⟨?_, b3⟩, fun hn => ?_, fun I hI => ⟨?_, ?_⟩, fun j hj => ?_⟩, ?_, ?_⟩
    · rw [hI_sI, if_neg (by omega), G.2.2.2.1 37 (by decide) (by decide) (by decide) (by decide)]; exact a1
    · rw [hI_sI, if_neg (by omega), G.2.2.2.1 33 (by decide) (by decide) (by decide) (by decide)]; exact a3 hn
    · rw [hI_sI, if_neg (by omega), G.2.2.2.1 33 (by decide) (by decide) (by decide) (by decide)]; exact (a4 I hI).1
    · exact (kp 0 I (a4 I hI).2 (gI I hI).1).w (gI I hI).1 (by omega)
    · have hj2 : j < hc H - 1 := hj
      exact (kp _ _ (a5 j (by omega)) (gR j (by omega)).1).w (gR j (by omega)).1 (by omega)
    · unfold MT at t1 ⊢
      rw [hI_sI, if_neg (by omega), hI_sI_ne (by omega)]
      exact t1
    · unfold MR at R1 ⊢
      rw [hI_sI, if_neg (by omega), hI_sI_ne (by omega)]
      exact R1
set_option maxHeartbeats 4000000 in
theorem o_restore {d tl len : Nat} {tp r : Nat → Nat} {Q : PQ} {h : HP} {m : Nat} {S : VS} {H : HS} (C : MI h m S H tp tl r len) (gS : GV S) (gH : GH H)
    (kr : him H = none → Q (some (.int (-3))) (RfM h m (-3)))
    (k : ∀ I, him H = some I → KM h m I (dropH H) tp tl r len (Q (some (.int (nI (vy I)))))) : Ev (d + 5) 267 [.ref m] h Q := by
  have M := C.1
  have g := gS.1
  have hy := gS.2
  have K := M.1.k
  unfold MK at K
  have gn := g.n
  have gl := g.l
  obtain ⟨q, ⟨⟨a1, a2⟩, a3, a4, a5⟩, t, Rw⟩ := C
  obtain ⟨⟨ho8, hc8⟩, gI, gR⟩ := gH
  cases e : him H with
  | none =>
    have i0 := a3 e
    simp only [e267, s267_0, s267_1, s267_4, s267_7, s267_8, s267_10, s267_13, s267_14, s267_15, s267_16, s267_17, s267_20, s267_21, s267_22, s267_25, s267_26, s267_29, oB_some, cl2_i, cl2_r, cl2_l, cl2_u, cl2_s, wd_0, wd_i, wd_r, wd_l, wd_f, ct_i, ct_r, ct_n, ct_f, rf_s, rf_n, tl_s, tl_n, true_and, and_true, eq_self, and_self, Nat.reduceAdd, Nat.reduceLeDiff, Nat.zero_le, Nat.reduceEqDiff, or_true, true_or, false_or, or_false, if_true, if_false, gI_0, gI_1, gI_2, gI_3, gI_4, gI_5, gI_6, gI_7, gI_8, gI_9, gI_10, gI_11, gI_12, gI_13, gI_14, gI_15, gL_0, gL_1, gL_2, gL_3, gL_4, gL_5, gL_6, gL_7, gL_8, gL_9, gL_10, gL_11, gL_12, gL_13, gL_14, gL_15, gA_0, gA_1, gA_2, gA_3, gA_4, gA_5, gA_6, gA_7, gA_8, gA_9, gA_10, gA_11, gA_12, gA_13, gA_14, gA_15, p1_0, p1_1, p1_2, p1_3, p1_4, p1_5, p1_6, p1_7, p1_8, p1_9, p1_10, p1_11, p1_12, p1_13, p1_14, p1_15, p2_0, p2_1, p2_2, p2_3, p2_4, p2_5, p2_6, p2_7, p2_8, p2_9, p2_10, p2_11, p2_12, p2_13, p2_14, p2_15, b01_ok, b_ft, b_tf, b01_e0, b01_e1, lgc_0, not_true_eq_false, not_false_eq_true, K, i0, n_no3 M.1.k, not_true_eq_false]
    exact kr e
  | some I =>
    obtain ⟨i1, p1⟩ := a4 I e
    simp only [e267, s267_0, s267_1, s267_4, s267_7, s267_8, s267_10, s267_13, s267_14, s267_15, s267_16, s267_17, oB_some, cl2_i, cl2_r, cl2_l, cl2_u, cl2_s, wd_0, wd_i, wd_r, wd_l, wd_f, ct_i, ct_r, ct_n, ct_f, rf_s, rf_n, tl_s, tl_n, true_and, and_true, eq_self, and_self, Nat.reduceAdd, Nat.reduceLeDiff, Nat.zero_le, Nat.reduceEqDiff, or_true, true_or, false_or, or_false, if_true, if_false, gI_0, gI_1, gI_2, gI_3, gI_4, gI_5, gI_6, gI_7, gI_8, gI_9, gI_10, gI_11, gI_12, gI_13, gI_14, gI_15, gL_0, gL_1, gL_2, gL_3, gL_4, gL_5, gL_6, gL_7, gL_8, gL_9, gL_10, gL_11, gL_12, gL_13, gL_14, gL_15, gA_0, gA_1, gA_2, gA_3, gA_4, gA_5, gA_6, gA_7, gA_8, gA_9, gA_10, gA_11, gA_12, gA_13, gA_14, gA_15, p1_0, p1_1, p1_2, p1_3, p1_4, p1_5, p1_6, p1_7, p1_8, p1_9, p1_10, p1_11, p1_12, p1_13, p1_14, p1_15, p2_0, p2_1, p2_2, p2_3, p2_4, p2_5, p2_6, p2_7, p2_8, p2_9, p2_10, p2_11, p2_12, p2_13, p2_14, p2_15, b01_ok, b_ft, b_tf, b01_e0, b01_e1, lgc_0, not_true_eq_false, not_false_eq_true, K, i1, z10, not_false_eq_true]
    refine m_allR (w := 0) M.1.k (by decide) fun h1 G => ?_
    have q1 := PR.rm M.1.k p1 (gI I e).1 G
    have K1 := q1.k
    unfold MK at K1
    have y1 : hI (sI h1 m 38 0) m 16 = nI (vy I) := by rw [hI_sI, if_neg (by omega)]; exact q1.y
    simp only [s267_20, s267_21, s267_22, s267_25, s267_26, s267_29, oB_some, cl2_i, cl2_r, cl2_l, cl2_u, cl2_s, wd_0, wd_i, wd_r, wd_l, wd_f, ct_i, ct_r, ct_n, ct_f, rf_s, rf_n, tl_s, tl_n, true_and, and_true, eq_self, and_self, Nat.reduceAdd, Nat.reduceLeDiff, Nat.zero_le, Nat.reduceEqDiff, or_true, true_or, false_or, or_false, if_true, if_false, gI_0, gI_1, gI_2, gI_3, gI_4, gI_5, gI_6, gI_7, gI_8, gI_9, gI_10, gI_11, gI_12, gI_13, gI_14, gI_15, gL_0, gL_1, gL_2, gL_3, gL_4, gL_5, gL_6, gL_7, gL_8, gL_9, gL_10, gL_11, gL_12, gL_13, gL_14, gL_15, gA_0, gA_1, gA_2, gA_3, gA_4, gA_5, gA_6, gA_7, gA_8, gA_9, gA_10, gA_11, gA_12, gA_13, gA_14, gA_15, p1_0, p1_1, p1_2, p1_3, p1_4, p1_5, p1_6, p1_7, p1_8, p1_9, p1_10, p1_11, p1_12, p1_13, p1_14, p1_15, p2_0, p2_1, p2_2, p2_3, p2_4, p2_5, p2_6, p2_7, p2_8, p2_9, p2_10, p2_11, p2_12, p2_13, p2_14, p2_15, b01_ok, b_ft, b_tf, b01_e0, b01_e1, lgc_0, not_true_eq_false, not_false_eq_true, z_hkd_sI, z_hln_sI, z_hL_sI, z_hR_sI, z_hnx_sI, z_hkd_sL, z_hln_sL, z_hI_sL, z_hR_sL, z_hnx_sL, z_hkd_sR, z_hln_sR, z_hI_sR, z_hL_sR, z_hnx_sR, z_hkd_cI, z_hln_cI, z_hL_cI, z_hR_cI, z_hnx_cI, z_hkd_cLg, z_hln_cLg, z_hI_cLg, z_hR_cLg, z_hnx_cLg, K1, y1]
    have fq := G.fq
    have kp : ∀ w T, KP h m w T → Good T → KP h1 m w T := fun w T p g => p.cong g (fun j hj => by rw [G.2.2.1 (m + 16) (by omega)]) (fun j hj => by rw [G.2.2.2.2.1 (m + 17) (by omega)])
    have t1 := t.fq fq
    have R1 := Rw.fq fq
    refine k I e _ (fq.fm.sI (by omega) (by omega)) (by rw [hI_sI_ne (by omega), fq.2.2.1 (m + 1) (by omega)]) ⟨⟨RM_i q1 (by decide), (M.2.pr G).w (Or.inr (by decide))⟩, ⟨⟨?_, by rw [hI_sI, if_pos ⟨rfl, rfl⟩]; rfl⟩, fun hn => ?_, fun J hJ => ⟨?_, ?_⟩, fun j hj => absurd hj (Nat.not_lt_zero j)⟩, ?_, ?_⟩
    · rw [hI_sI, if_neg (by omega), G.2.2.2.1 37 (by decide) (by decide) (by decide) (by decide)]; exact a1
    · rw [hI_sI, if_neg (by omega), G.2.2.2.1 33 (by decide) (by decide) (by decide) (by decide)]; exact a3 hn
    · rw [hI_sI, if_neg (by omega), G.2.2.2.1 33 (by decide) (by decide) (by decide) (by decide)]; exact (a4 J hJ).1
    · exact (kp 0 J (a4 J hJ).2 (gI J hJ).1).w (gI J hJ).1 (by omega)
    · unfold MT at t1 ⊢
      rw [hI_sI, if_neg (by omega), hI_sI_ne (by omega)]
      exact t1
    · unfold MR at R1 ⊢
      rw [hI_sI, if_neg (by omega), hI_sI_ne (by omega)]
      exact R1
set_option maxHeartbeats 4000000 in
theorem o_image {d tl len : Nat} {tp r : Nat → Nat} {Q : PQ} {h : HP} {m : Nat} {S : VS} {H : HS} (C : MI h m S H tp tl r len) (gS : GV S) (gH : GH H)
    (k : KM h m S (imgH H S) tp tl r len (Q (some (.int (nI (vy S)))))) : Ev (d + 5) 265 [.ref m] h Q := by
  have M := C.1
  have g := gS.1
  have hy := gS.2
  have K := M.1.k
  unfold MK at K
  have gn := g.n
  have gl := g.l
  obtain ⟨q, ⟨⟨a1, a2⟩, a3, a4, a5⟩, t, Rw⟩ := C
  obtain ⟨⟨ho8, hc8⟩, gI, gR⟩ := gH
  have f0 : FQ'' m h (sI h m 33 1) := ⟨fun k hk => by rw [hI_sI, if_neg (fun z => hk z.2)], fun b hb => hI_sI_ne hb⟩
  have q1 : MO (sI h m 33 1) m S := ⟨RM_i M.1 (by decide), M.2.w (Or.inr (by decide))⟩
  have K1 := q1.1.k
  unfold MK at K1
  simp only [e265, s265_0, s265_1, s265_2, s265_5, s265_6, s265_7, s265_8, oB_some, cl2_i, cl2_r, cl2_l, cl2_u, cl2_s, wd_0, wd_i, wd_r, wd_l, wd_f, ct_i, ct_r, ct_n, ct_f, rf_s, rf_n, tl_s, tl_n, true_and, and_true, eq_self, and_self, Nat.reduceAdd, Nat.reduceLeDiff, Nat.zero_le, Nat.reduceEqDiff, or_true, true_or, false_or, or_false, if_true, if_false, gI_0, gI_1, gI_2, gI_3, gI_4, gI_5, gI_6, gI_7, gI_8, gI_9, gI_10, gI_11, gI_12, gI_13, gI_14, gI_15, gL_0, gL_1, gL_2, gL_3, gL_4, gL_5, gL_6, gL_7, gL_8, gL_9, gL_10, gL_11, gL_12, gL_13, gL_14, gL_15, gA_0, gA_1, gA_2, gA_3, gA_4, gA_5, gA_6, gA_7, gA_8, gA_9, gA_10, gA_11, gA_12, gA_13, gA_14, gA_15, p1_0, p1_1, p1_2, p1_3, p1_4, p1_5, p1_6, p1_7, p1_8, p1_9, p1_10, p1_11, p1_12, p1_13, p1_14, p1_15, p2_0, p2_1, p2_2, p2_3, p2_4, p2_5, p2_6, p2_7, p2_8, p2_9, p2_10, p2_11, p2_12, p2_13, p2_14, p2_15, b01_ok, b_ft, b_tf, b01_e0, b01_e1, lgc_0, not_true_eq_false, not_false_eq_true, z_hkd_sI, z_hln_sI, z_hL_sI, z_hR_sI, z_hnx_sI, z_hkd_sL, z_hln_sL, z_hI_sL, z_hR_sL, z_hnx_sL, z_hkd_sR, z_hln_sR, z_hI_sR, z_hL_sR, z_hnx_sR, z_hkd_cI, z_hln_cI, z_hL_cI, z_hR_cI, z_hnx_cI, z_hkd_cLg, z_hln_cLg, z_hI_cLg, z_hR_cLg, z_hnx_cLg, K]
  refine m_allK (w := 0) q1.1.k (by decide) fun h1 G => ?_
  have q2 := PK.rm q1.1 G
  have K2 := q2.k
  unfold MK at K2
  simp only [s265_11, s265_12, s265_15, oB_some, cl2_i, cl2_r, cl2_l, cl2_u, cl2_s, wd_0, wd_i, wd_r, wd_l, wd_f, ct_i, ct_r, ct_n, ct_f, rf_s, rf_n, tl_s, tl_n, true_and, and_true, eq_self, and_self, Nat.reduceAdd, Nat.reduceLeDiff, Nat.zero_le, Nat.reduceEqDiff, or_true, true_or, false_or, or_false, if_true, if_false, gI_0, gI_1, gI_2, gI_3, gI_4, gI_5, gI_6, gI_7, gI_8, gI_9, gI_10, gI_11, gI_12, gI_13, gI_14, gI_15, gL_0, gL_1, gL_2, gL_3, gL_4, gL_5, gL_6, gL_7, gL_8, gL_9, gL_10, gL_11, gL_12, gL_13, gL_14, gL_15, gA_0, gA_1, gA_2, gA_3, gA_4, gA_5, gA_6, gA_7, gA_8, gA_9, gA_10, gA_11, gA_12, gA_13, gA_14, gA_15, p1_0, p1_1, p1_2, p1_3, p1_4, p1_5, p1_6, p1_7, p1_8, p1_9, p1_10, p1_11, p1_12, p1_13, p1_14, p1_15, p2_0, p2_1, p2_2, p2_3, p2_4, p2_5, p2_6, p2_7, p2_8, p2_9, p2_10, p2_11, p2_12, p2_13, p2_14, p2_15, b01_ok, b_ft, b_tf, b01_e0, b01_e1, lgc_0, not_true_eq_false, not_false_eq_true, K2, q2.y]
  have kp : ∀ w T, KP h m w T → Good T → KP (sI h m 33 1) m w T := fun w T p g => p.w g (by omega)
  refine k h1 ((FMm.rf.sI (by omega) (by omega)).tr G.fm) (by rw [G.2.2.1 (m + 1) (by omega) (by omega), hI_sI_ne (by omega)]) ⟨⟨q2, q1.2.pk G⟩, ⟨⟨?_, ?_⟩, fun hn => (by cases hn), fun I hI => ⟨?_, ?_⟩, fun j hj => ?_⟩, ?_, ?_⟩
  · rw [G.2.2.2.1 37 (by decide) (by decide) (by decide), f0.1 37 (by decide)]; exact a1
  · rw [G.2.2.2.1 38 (by decide) (by decide) (by decide), f0.1 38 (by decide)]; exact a2
  · rw [G.2.2.2.1 33 (by decide) (by decide) (by decide), hI_sI, if_pos ⟨rfl, rfl⟩]
  · cases hI
    exact PK.kp q1.1 g G
  · exact (kp _ _ (a5 j hj) (gR j hj).1).pk (gR j hj).1 G (by omega)
  · refine MT.pk ?_ G
    unfold MT at t ⊢
    rw [f0.1 27 (by decide), f0.2 (m + 12) (by omega)]
    exact t
  · refine MR.pk ?_ G
    unfold MR at Rw ⊢
    rw [f0.1 40 (by decide), f0.2 (m + 18) (by omega)]
    exact Rw
