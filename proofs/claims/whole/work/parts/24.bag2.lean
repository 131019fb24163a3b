-- needs: 16.num 17.small 20.spec 22.rep 23.bag
set_option maxHeartbeats 4000000 in
/-- one more letter -/
theorem v_add {d : Nat} {Q : PQ} {h : HP} {g : Nat} {b : List Ltr} {l : Ltr} (bk : BK h g) (hn : hI h g 0 = nI b.length) (hb : b.length < 24) (hr : RL5 (lt5 h g) b)
    (k : ∀ h', Fm g 6 h h' → hI h' g 0 = nI (b ++ [l]).length → RL5 (lt5 h' g) (b ++ [l]) → Q none h') : Ev (d + 2) 63 [.ref g, .int (nI (lF l)), .int (nI (lT l)), .int (nI (lD l)), .int (nI (lP l)), .long (lC l)] h Q := by
  have bk1 := bk
  unfold BK at bk1
  have h24 : ¬ b.length = 24 := by omega
  have e1 : b01 (decide (b.length = 24)) = 0 := by simp [b01, h24]
  have g1 : ¬ g = g + 1 := by omega
  simp only [e63, s63_0, s63_1, s63_4, s63_7, s63_8, s63_9, s63_12, s63_13, s63_16, s63_17, s63_18, s63_19, s63_22, s63_23, s63_26, s63_27, s63_28, s63_29, s63_32, s63_33, s63_36, s63_37, s63_38, s63_39, s63_42, s63_43, s63_46, s63_48, s63_49, s63_50, s63_53, s63_54, s63_57, s63_59, s63_60, s63_61, s63_62, s63_65, s63_66, s63_67, s63_70, oB_some, cl2_i, cl2_r, cl2_l, cl2_u, cl2_s, wd_0, wd_i, wd_r, wd_l, wd_f, ct_i, ct_r, ct_n, ct_f, rf_s, rf_n, tl_s, tl_n, true_and, and_true, eq_self, and_self, Nat.reduceAdd, Nat.reduceLeDiff, Nat.zero_le, Nat.reduceEqDiff, or_true, true_or, false_or, or_false, if_true, if_false, gI_0, gI_1, gI_2, gI_3, gI_4, gI_5, gI_6, gI_7, gI_8, gI_9, gI_10, gI_11, gI_12, gI_13, gI_14, gI_15, gL_0, gL_1, gL_2, gL_3, gL_4, gL_5, gL_6, gL_7, gL_8, gL_9, gL_10, gL_11, gL_12, gL_13, gL_14, gL_15, gA_0, gA_1, gA_2, gA_3, gA_4, gA_5, gA_6, gA_7, gA_8, gA_9, gA_10, gA_11, gA_12, gA_13, gA_14, gA_15, p1_0, p1_1, p1_2, p1_3, p1_4, p1_5, p1_6, p1_7, p1_8, p1_9, p1_10, p1_11, p1_12, p1_13, p1_14, p1_15, p2_0, p2_1, p2_2, p2_3, p2_4, p2_5, p2_6, p2_7, p2_8, p2_9, p2_10, p2_11, p2_12, p2_13, p2_14, p2_15, z_hkd_sI, z_hln_sI, z_hL_sI, z_hR_sI, z_hnx_sI, z_hkd_sL, z_hln_sL, z_hI_sL, z_hR_sL, z_hnx_sL, z_hkd_sR, z_hln_sR, z_hI_sR, z_hL_sR, z_hnx_sR, z_hkd_cI, z_hln_cI, z_hL_cI, z_hR_cI, z_hnx_cI, z_hkd_cLg, z_hln_cLg, z_hI_cLg, z_hR_cLg, z_hnx_cLg, bk1, v_isFull bk hn (show b.length ≤ 24 by omega), e1, hn, ix_nI (show b.length < 2 ^ 31 by omega), nI_pos' (show b.length < 2 ^ 31 by omega), hb, hI_sI, hI_sL]
  simp only [Nat.add_eq_left, Nat.reduceEqDiff, false_and, if_false, hn, Nat.left_eq_add, hb, ix_nI (show b.length < 2 ^ 31 by omega), nI_pos' (show b.length < 2 ^ 31 by omega), and_self, true_and, nI_1]
  refine k _ ?_ ?_ ?_
  · exact Fm.sI (Fm.sL (Fm.sI (Fm.sI (Fm.sI (Fm.sI Fm.rf (by omega) (by omega)) (by omega) (by omega)) (by omega) (by omega)) (by omega) (by omega)) (by omega) (by omega)) (by omega) (by omega)
  · rw [hI_sI_eq, up_at, List.length_append]; rfl
  · rw [lt5_sI (by omega)]
    refine hr.push (fun j hj => ?_) ?_
    · have hj2 : ¬ j = b.length := by omega
      unfold lt5
      simp [hI_sI, hL_sL, hI_sL, hL_sI, hj2]
    · unfold lt5 enc
      simp [hI_sI, hL_sL, hI_sL, hL_sI]
