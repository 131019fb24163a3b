-- the other side's changes
theorem GH_push {H : HS} {S : VS} (gH : GH H) (gS : GV S) : GH (pushH H S) := by
  obtain ⟨⟨ho8, hc8⟩, gI, gR⟩ := gH
  have po8 : po H < 8 := by unfold po; split <;> omega
  have pc7 : pc1 H < 8 := by unfold pc1; split <;> omega
  refine ⟨⟨po8, pc7⟩, gI, fun j hj => ?_⟩
  have hj2 : j < pc1 H + 1 := hj
  show GV (va_up (hg H) ((po H + pc1 H) % 8) S ((po H + j) % 8))
  by_cases e : j = pc1 H
  · subst e
    rw [up_at]
    exact gS
  · rw [up_ne (mod8_ne (o := po H) (show j < pc1 H by omega) pc7)]
    unfold po pc1 at *
    by_cases e8 : hc H = 8
    · rw [if_pos e8] at *
      have := gR (j + 1) (by omega)
      rw [show (ho H + (j + 1)) % 8 = ((ho H + 1) % 8 + j) % 8 by omega] at this
      exact this
    · rw [if_neg e8] at *
      exact gR j (by omega)
set_option maxHeartbeats 8000000 in
theorem m_isMore {d k f : Nat} {Q : PQ} {h : HP} {m : Nat} {S : VS} (M : MO h m S) (g : Good S) (hn : vn S < 6)
    (kk : ∀ h', FQ m h h' → MO h' m (come S k f) → Q none h') : Ev (d + 1) 80 [.ref m, .int (nI k), .int (nI f)] h Q := by
  have K := M.1.k
  unfold MK at K
  have n31 : vn S < 2 ^ 31 := by omega
  have e5 : (nI (vn S) = 5) = (vn S = 5) := eqP (b := 5) n31 (by decide)
  have n11 := M.1.n
  simp only [e80, s80_0, s80_1, s80_4, s80_5, s80_8, s80_9, s80_10, s80_11, s80_14, s80_15, s80_18, s80_19, s80_20, s80_21, s80_24, s80_25, s80_28, s80_29, s80_32, s80_33, s80_36, s80_37, s80_40, s80_41, s80_44, s80_45, s80_46, s80_47, s80_48, s80_51, s80_52, s80_55, s80_56, s80_57, s80_58, s80_61, s80_62, s80_65, s80_66, s80_67, s80_68, s80_69, s80_72, s80_73, s80_74, s80_77, oB_some, cl2_i, cl2_r, cl2_l, cl2_u, cl2_s, wd_0, wd_i, wd_r, wd_l, wd_f, ct_i, ct_r, ct_n, ct_f, rf_s, rf_n, tl_s, tl_n, true_and, and_true, eq_self, and_self, Nat.reduceAdd, Nat.reduceLeDiff, Nat.zero_le, Nat.reduceEqDiff, or_true, true_or, false_or, or_false, if_true, if_false, gI_0, gI_1, gI_2, gI_3, gI_4, gI_5, gI_6, gI_7, gI_8, gI_9, gI_10, gI_11, gI_12, gI_13, gI_14, gI_15, gL_0, gL_1, gL_2, gL_3, gL_4, gL_5, gL_6, gL_7, gL_8, gL_9, gL_10, gL_11, gL_12, gL_13, gL_14, gL_15, gA_0, gA_1, gA_2, gA_3, gA_4, gA_5, gA_6, gA_7, gA_8, gA_9, gA_10, gA_11, gA_12, gA_13, gA_14, gA_15, p1_0, p1_1, p1_2, p1_3, p1_4, p1_5, p1_6, p1_7, p1_8, p1_9, p1_10, p1_11, p1_12, p1_13, p1_14, p1_15, p2_0, p2_1, p2_2, p2_3, p2_4, p2_5, p2_6, p2_7, p2_8, p2_9, p2_10, p2_11, p2_12, p2_13, p2_14, p2_15, b01_ok, b_ft, b_tf, b01_e0, b01_e1, lgc_0, not_true_eq_false, not_false_eq_true, z_hkd_sI, z_hln_sI, z_hL_sI, z_hR_sI, z_hnx_sI, z_hkd_sL, z_hln_sL, z_hI_sL, z_hR_sL, z_hnx_sL, z_hkd_sR, z_hln_sR, z_hI_sR, z_hL_sR, z_hnx_sR, z_hkd_cI, z_hln_cI, z_hL_cI, z_hR_cI, z_hnx_cI, z_hkd_cLg, z_hln_cLg, z_hI_cLg, z_hR_cLg, z_hnx_cLg, hI_sI_ne, hL_sL_ne, ne_eq, Nat.add_left_cancel_iff, Nat.left_eq_add, Nat.add_eq_left, Nat.reduceEqDiff, not_false_eq_true, K, n11, ix_nI n31, nI_pos' n31, hn, e5, nI_1]
  have step : ∀ y, y = nI (if vn S = 5 then 0 else vn S + 1) → Q none (sI (sL (sL (sI (sI (sI h (m + 2) (vn S) (nI k)) (m + 3) (vn S) (nI f)) (m + 4) (vn S) y) (m + 9) (vn S) 0) (m + 10) (vn S) 0) m 11 (nI (vn S + 1))) := by
    intro y hy
    refine kk _ ?_ ⟨?_, ?_⟩
    · exact ((((((FQ.rf.sI (Or.inr (Or.inl (by omega)))).sI (Or.inr (Or.inl (by omega)))).sI (Or.inr (Or.inl (by omega)))).sL (Or.inr (by omega))).sL (Or.inr (by omega))).sI (Or.inl ⟨rfl, by omega⟩))
    · obtain ⟨k0, r1, r2, r3, r4, r5, r6, r7, r8, r9, r10⟩ := M.1
      refine ⟨k0, ?_⟩
      unfold RMr
      rw [mt5_sI (by omega), mt5_sL (by omega), mt5_sL (by omega), mt5_sI (by omega), mt5_sI (by omega), mt5_sI (by omega)]
      simp [hI_sI_ne, hI_sI_eq, hL_sI, hI_sL, hL_sL_ne, hL_sL_eq, up_at, up_ne]
      refine ⟨rfl, fun i hi => ?_, r3, r4, r5, r6, r7, r8, r9, r10⟩
      have hi2 : i < vn S + 1 := hi
      show va_up _ (vn S) (nI k) i = nI (va_up (vk S) (vn S) k i) ∧ va_up _ (vn S) (nI f) i = nI (va_up (vf S) (vn S) f i) ∧ va_up _ (vn S) y i = nI (va_up (vr S) (vn S) _ i) ∧ va_up _ (vn S) 0 i = va_up (vw S) (vn S) 0 i ∧ va_up _ (vn S) 0 i = va_up (vx S) (vn S) 0 i
      unfold va_up
      by_cases e : i = vn S
      · simp only [e, if_true, hy]
        exact ⟨trivial, trivial, trivial, trivial, trivial⟩
      · simp only [e, if_false]
        exact r2 i (by omega)
    · exact (((((M.2.w (Or.inl (by omega))).w (Or.inl (by omega))).w (Or.inl (by omega))).wL).wL).w (Or.inr (by decide))
  by_cases e : vn S = 5
  · rw [if_neg (not_not_intro e)]
    exact step _ (by rw [if_pos e]; rfl)
  · rw [if_pos e]
    exact step _ (by rw [if_neg e])
set_option maxHeartbeats 4000000 in
theorem m_comesKnowing {d s : Nat} {p : Int32} {Q : PQ} {h : HP} {m : Nat} {S : VS} (M : MO h m S) (g : Good S) (hp : isKI S p = true) (hs : s < 40)
    (kk : ∀ h', FQ m h h' → MO h' m (lrn S p (bL s)) → Q (some (.int 1)) h') : Ev (d + 3) 83 [.ref m, .int p, .int (nI s)] h Q := by
  have K := M.1.k
  unfold MK at K
  have gn := g.n
  have lt : nI s < 40 := nI_lt (b := 40) hs (by decide)
  rcases isKI_of g hp with rfl | ⟨i, hi, rfl⟩
  · have z : ¬ (0 : Int32) ≤ -1 := by decide
    simp only [e83, s83_0, s83_1, s83_2, s83_5, s83_8, s83_9, s83_11, s83_14, s83_15, s83_16, s83_17, s83_20, s83_21, s83_22, s83_25, s83_26, s83_27, s83_28, s83_29, s83_32, s83_35, s83_36, s83_39, s83_40, s83_41, s83_42, s83_43, s83_44, s83_45, s83_46, s83_47, s83_48, oB_some, cl2_i, cl2_r, cl2_l, cl2_u, cl2_s, wd_0, wd_i, wd_r, wd_l, wd_f, ct_i, ct_r, ct_n, ct_f, rf_s, rf_n, tl_s, tl_n, true_and, and_true, eq_self, and_self, Nat.reduceAdd, Nat.reduceLeDiff, Nat.zero_le, Nat.reduceEqDiff, or_true, true_or, false_or, or_false, if_true, if_false, gI_0, gI_1, gI_2, gI_3, gI_4, gI_5, gI_6, gI_7, gI_8, gI_9, gI_10, gI_11, gI_12, gI_13, gI_14, gI_15, gL_0, gL_1, gL_2, gL_3, gL_4, gL_5, gL_6, gL_7, gL_8, gL_9, gL_10, gL_11, gL_12, gL_13, gL_14, gL_15, gA_0, gA_1, gA_2, gA_3, gA_4, gA_5, gA_6, gA_7, gA_8, gA_9, gA_10, gA_11, gA_12, gA_13, gA_14, gA_15, p1_0, p1_1, p1_2, p1_3, p1_4, p1_5, p1_6, p1_7, p1_8, p1_9, p1_10, p1_11, p1_12, p1_13, p1_14, p1_15, p2_0, p2_1, p2_2, p2_3, p2_4, p2_5, p2_6, p2_7, p2_8, p2_9, p2_10, p2_11, p2_12, p2_13, p2_14, p2_15, b01_ok, b_ft, b_tf, b01_e0, b01_e1, lgc_0, not_true_eq_false, not_false_eq_true, z_hkd_sI, z_hln_sI, z_hL_sI, z_hR_sI, z_hnx_sI, z_hkd_sL, z_hln_sL, z_hI_sL, z_hR_sL, z_hnx_sL, z_hkd_sR, z_hln_sR, z_hI_sR, z_hL_sR, z_hnx_sR, z_hkd_cI, z_hln_cI, z_hL_cI, z_hR_cI, z_hnx_cI, z_hkd_cLg, z_hln_cLg, z_hI_cLg, z_hR_cLg, z_hnx_cLg, K, m_isKnowerI M.1 g, hp, Bool.true_eq_false, lt, z, M.1.s, shl_bL s (by omega)]
    exact kk _ (FQ.rf.sL (Or.inl rfl)) ⟨RM_s M.1 _, M.2.wL⟩
  · have i6 : i < 6 := by omega
    have i31 : i < 2 ^ 31 := by omega
    simp only [e83, s83_0, s83_1, s83_2, s83_5, s83_8, s83_9, s83_11, s83_14, s83_15, s83_16, s83_17, s83_20, s83_21, s83_22, s83_25, s83_26, s83_27, s83_28, s83_29, s83_32, s83_35, s83_36, s83_39, s83_40, s83_41, s83_42, s83_43, s83_44, s83_45, s83_46, s83_47, s83_48, oB_some, cl2_i, cl2_r, cl2_l, cl2_u, cl2_s, wd_0, wd_i, wd_r, wd_l, wd_f, ct_i, ct_r, ct_n, ct_f, rf_s, rf_n, tl_s, tl_n, true_and, and_true, eq_self, and_self, Nat.reduceAdd, Nat.reduceLeDiff, Nat.zero_le, Nat.reduceEqDiff, or_true, true_or, false_or, or_false, if_true, if_false, gI_0, gI_1, gI_2, gI_3, gI_4, gI_5, gI_6, gI_7, gI_8, gI_9, gI_10, gI_11, gI_12, gI_13, gI_14, gI_15, gL_0, gL_1, gL_2, gL_3, gL_4, gL_5, gL_6, gL_7, gL_8, gL_9, gL_10, gL_11, gL_12, gL_13, gL_14, gL_15, gA_0, gA_1, gA_2, gA_3, gA_4, gA_5, gA_6, gA_7, gA_8, gA_9, gA_10, gA_11, gA_12, gA_13, gA_14, gA_15, p1_0, p1_1, p1_2, p1_3, p1_4, p1_5, p1_6, p1_7, p1_8, p1_9, p1_10, p1_11, p1_12, p1_13, p1_14, p1_15, p2_0, p2_1, p2_2, p2_3, p2_4, p2_5, p2_6, p2_7, p2_8, p2_9, p2_10, p2_11, p2_12, p2_13, p2_14, p2_15, b01_ok, b_ft, b_tf, b01_e0, b01_e1, lgc_0, not_true_eq_false, not_false_eq_true, z_hkd_sI, z_hln_sI, z_hL_sI, z_hR_sI, z_hnx_sI, z_hkd_sL, z_hln_sL, z_hI_sL, z_hR_sL, z_hnx_sL, z_hkd_sR, z_hln_sR, z_hI_sR, z_hL_sR, z_hnx_sR, z_hkd_cI, z_hln_cI, z_hL_cI, z_hR_cI, z_hnx_cI, z_hkd_cLg, z_hln_cLg, z_hI_cLg, z_hR_cLg, z_hnx_cLg, K, m_isKnowerI M.1 g, hp, Bool.true_eq_false, lt, (M.1.at hi).2.2.2.1, ix_nI i31, nI_pos' i31, i6, Value.category, shl_bL s (by omega)]
    rw [lrn_n i31] at kk
    exact kk _ (FQ.rf.sL (Or.inr (by omega))) ⟨RM_w M.1 _ _, M.2.wL⟩
theorem notOf_take {p : Nat} {b : List Ltr} {k : Nat} (hk : k < b.length) (F : List Ltr) : (b.take (k + 1) ++ F).eraseIdx k = b.take k ++ F := by
  rw [take_s hk, List.append_assoc, List.eraseIdx_append_of_length_le (by rw [List.length_take]; omega)]
  rw [List.length_take, Nat.min_eq_left (by omega), Nat.sub_self]
  rfl
