-- needs: 16.num 17.small 18.bits 20.spec 21.kinds 22.rep 23.bag 24.bag2 25.get
theorem lt5_fm {lo n : Nat} {h h' : HP} {g : Nat} (f : Fm lo n h h') (hd : g + 6 ≤ lo ∨ lo + n ≤ g) : lt5 h' g = lt5 h g := lt5_kept fun j h1 h2 => f.1 (g + j) (by omega)
set_option maxHeartbeats 4000000 in
theorem v_holdAs {d : Nat} {Q : PQ} {h : HP} {g g2 : Nat} {b : List Ltr} (bk : BK h g) (bk2 : BK h g2) (hd : g2 + 6 ≤ g ∨ g + 6 ≤ g2) (hn : hI h g2 0 = nI b.length) (hb : b.length ≤ 24) (hr : RL5 (lt5 h g2) b)
    (k : ∀ h', Fm g 6 h h' → hI h' g 0 = nI b.length → RL5 (lt5 h' g) b → Q none h') : Ev (d + 2) 20 [.ref g, .ref g2] h Q := by
  have loop : ∀ (n i : Nat) (h1 : HP), i + n = b.length → Fm g 6 h h1 → hI h1 g 0 = nI b.length → (∀ j, j < i → lt5 h1 g j = lt5 h g2 j) → WP (d + 1) 20 Q (10, [.val (.ref g), .val (.ref g2), .val (.int (nI i))], [], h1, 0, 0) := by
    intro n
    induction n with
    | zero =>
      intro i h1 hi hF hn1 hl
      obtain rfl : i = b.length := by omega
      have bk1 := bk.kept hF.2.1 hF.2.2.1 hF.2.2.2.1
      unfold BK at bk1
      rw [s20_10]
      simp only [s20_0, s20_1, s20_2, s20_5, s20_8, s20_9, s20_11, s20_12, s20_15, s20_18, s20_19, s20_20, s20_21, s20_22, s20_25, s20_28, s20_31, oB_some, cl2_i, cl2_r, cl2_l, cl2_u, cl2_s, wd_0, wd_i, wd_r, wd_l, wd_f, ct_i, ct_r, ct_n, ct_f, rf_s, rf_n, tl_s, tl_n, true_and, and_true, eq_self, and_self, Nat.reduceAdd, Nat.reduceLeDiff, Nat.zero_le, Nat.reduceEqDiff, or_true, true_or, false_or, or_false, if_true, if_false, gI_0, gI_1, gI_2, gI_3, gI_4, gI_5, gI_6, gI_7, gI_8, gI_9, gI_10, gI_11, gI_12, gI_13, gI_14, gI_15, gL_0, gL_1, gL_2, gL_3, gL_4, gL_5, gL_6, gL_7, gL_8, gL_9, gL_10, gL_11, gL_12, gL_13, gL_14, gL_15, gA_0, gA_1, gA_2, gA_3, gA_4, gA_5, gA_6, gA_7, gA_8, gA_9, gA_10, gA_11, gA_12, gA_13, gA_14, gA_15, p1_0, p1_1, p1_2, p1_3, p1_4, p1_5, p1_6, p1_7, p1_8, p1_9, p1_10, p1_11, p1_12, p1_13, p1_14, p1_15, p2_0, p2_1, p2_2, p2_3, p2_4, p2_5, p2_6, p2_7, p2_8, p2_9, p2_10, p2_11, p2_12, p2_13, p2_14, p2_15, b01_ok, b_ft, b_tf, b01_e0, b01_e1, lgc_0, not_true_eq_false, not_false_eq_true, bk1, hn1, Int32.le_refl]
      exact k h1 hF hn1 (hr.cong hl)
    | succ n ih =>
      intro i h1 hi hF hn1 hl
      have bk1 := bk.kept hF.2.1 hF.2.2.1 hF.2.2.2.1
      have bk3 := bk2.kept hF.2.1 hF.2.2.1 hF.2.2.2.1
      have bk1' := bk1
      unfold BK at bk1'
      have z : ¬ nI b.length ≤ nI i := nI_ge (by omega) (by omega)
      rw [s20_10]
      simp only [s20_0, s20_1, s20_2, s20_5, s20_8, s20_9, s20_11, s20_12, s20_15, s20_18, s20_19, s20_20, s20_21, s20_22, s20_25, s20_28, s20_31, oB_some, cl2_i, cl2_r, cl2_l, cl2_u, cl2_s, wd_0, wd_i, wd_r, wd_l, wd_f, ct_i, ct_r, ct_n, ct_f, rf_s, rf_n, tl_s, tl_n, true_and, and_true, eq_self, and_self, Nat.reduceAdd, Nat.reduceLeDiff, Nat.zero_le, Nat.reduceEqDiff, or_true, true_or, false_or, or_false, if_true, if_false, gI_0, gI_1, gI_2, gI_3, gI_4, gI_5, gI_6, gI_7, gI_8, gI_9, gI_10, gI_11, gI_12, gI_13, gI_14, gI_15, gL_0, gL_1, gL_2, gL_3, gL_4, gL_5, gL_6, gL_7, gL_8, gL_9, gL_10, gL_11, gL_12, gL_13, gL_14, gL_15, gA_0, gA_1, gA_2, gA_3, gA_4, gA_5, gA_6, gA_7, gA_8, gA_9, gA_10, gA_11, gA_12, gA_13, gA_14, gA_15, p1_0, p1_1, p1_2, p1_3, p1_4, p1_5, p1_6, p1_7, p1_8, p1_9, p1_10, p1_11, p1_12, p1_13, p1_14, p1_15, p2_0, p2_1, p2_2, p2_3, p2_4, p2_5, p2_6, p2_7, p2_8, p2_9, p2_10, p2_11, p2_12, p2_13, p2_14, p2_15, b01_ok, b_ft, b_tf, b01_e0, b01_e1, lgc_0, not_true_eq_false, not_false_eq_true, bk1', hn1, z, v_put bk1 bk3 (show i < 24 by omega) (show i < 24 by omega), nI_1]
      refine ih (i + 1) _ (by omega) (hF.tr (putB_fm (by omega) (by omega))) (by rw [putB_g]; exact hn1) fun j hj => ?_
      have eg2 : lt5 h1 g2 = lt5 h g2 := lt5_fm hF (by omega)
      rw [putB_lt (by omega), eg2]
      unfold va_up
      by_cases e : j = i
      · subst e
        rw [if_pos rfl]
      · rw [if_neg e]
        exact hl j (by omega)
  have bk' := bk
  have bk2' := bk2
  unfold BK at bk' bk2'
  simp only [e20, s20_0, s20_1, s20_2, s20_5, s20_8, s20_9, s20_11, s20_12, s20_15, s20_18, s20_19, s20_20, s20_21, s20_22, s20_25, s20_28, s20_31, oB_some, cl2_i, cl2_r, cl2_l, cl2_u, cl2_s, wd_0, wd_i, wd_r, wd_l, wd_f, ct_i, ct_r, ct_n, ct_f, rf_s, rf_n, tl_s, tl_n, true_and, and_true, eq_self, and_self, Nat.reduceAdd, Nat.reduceLeDiff, Nat.zero_le, Nat.reduceEqDiff, or_true, true_or, false_or, or_false, if_true, if_false, gI_0, gI_1, gI_2, gI_3, gI_4, gI_5, gI_6, gI_7, gI_8, gI_9, gI_10, gI_11, gI_12, gI_13, gI_14, gI_15, gL_0, gL_1, gL_2, gL_3, gL_4, gL_5, gL_6, gL_7, gL_8, gL_9, gL_10, gL_11, gL_12, gL_13, gL_14, gL_15, gA_0, gA_1, gA_2, gA_3, gA_4, gA_5, gA_6, gA_7, gA_8, gA_9, gA_10, gA_11, gA_12, gA_13, gA_14, gA_15, p1_0, p1_1, p1_2, p1_3, p1_4, p1_5, p1_6, p1_7, p1_8, p1_9, p1_10, p1_11, p1_12, p1_13, p1_14, p1_15, p2_0, p2_1, p2_2, p2_3, p2_4, p2_5, p2_6, p2_7, p2_8, p2_9, p2_10, p2_11, p2_12, p2_13, p2_14, p2_15, b01_ok, b_ft, b_tf, b01_e0, b01_e1, lgc_0, not_true_eq_false, not_false_eq_true, z_hkd_sI, z_hln_sI, z_hL_sI, z_hR_sI, z_hnx_sI, z_hkd_sL, z_hln_sL, z_hI_sL, z_hR_sL, z_hnx_sL, z_hkd_sR, z_hln_sR, z_hI_sR, z_hL_sR, z_hnx_sR, z_hkd_cI, z_hln_cI, z_hL_cI, z_hR_cI, z_hnx_cI, z_hkd_cLg, z_hln_cLg, z_hI_cLg, z_hR_cLg, z_hnx_cLg, bk', bk2', hn]
  refine loop b.length 0 _ (by omega) (Fm.rf.sI (Nat.le_refl _) (by omega)) (by rw [hI_sI_eq, up_at]) fun j hj => by omega
/-- what a letter of the bag says: field w (4: which is its least, 5: how many) -/
theorem v_ofLetter0 {d : Nat} {Q : PQ} {h : HP} {g j w : Nat} {b : List Ltr} {l : Ltr} (bk : BK h g) (hb : b.length ≤ 24) (hr : RL5 (lt5 h g) b) (hj : b[j]? = some l) (hw : w < 4) : Ev (d + 1) 122 [.ref g, .int (nI j), .int (nI w)] h Q = Q (some (.int (nI (if w = 0 then lF l else if w = 1 then lT l else if w = 2 then lD l else lP l)))) h := by
  have e := hr j l hj
  unfold lt5 enc at e
  injection e with e1 e
  injection e with e2 e
  injection e with e3 e
  injection e with e4 e5
  unfold BK at bk
  have j24 : j < 24 := by have := (List.getElem?_eq_some_iff.mp hj).1; omega
  have j31 : j < 2 ^ 31 := by omega
  rcases (show w = 0 ∨ w = 1 ∨ w = 2 ∨ w = 3 by omega) with rfl | rfl | rfl | rfl
  all_goals simp only [e122, s122_0, s122_1, s122_40, s122_41, s122_44, s122_45, s122_46, s122_47, s122_48, s122_51, s122_52, s122_53, s122_54, s122_55, s122_58, s122_59, s122_60, s122_61, s122_62, s122_65, s122_66, s122_67, s122_68, s122_69, s122_72, s122_73, s122_74, s122_77, s122_78, s122_79, s122_82, s122_83, s122_84, s122_85, s122_88, s122_89, s122_90, s122_93, s122_94, s122_95, s122_98, oB_some, cl2_i, cl2_r, cl2_l, cl2_u, cl2_s, wd_0, wd_i, wd_r, wd_l, wd_f, ct_i, ct_r, ct_n, ct_f, rf_s, rf_n, tl_s, tl_n, true_and, and_true, eq_self, and_self, Nat.reduceAdd, Nat.reduceLeDiff, Nat.zero_le, Nat.reduceEqDiff, or_true, true_or, false_or, or_false, if_true, if_false, gI_0, gI_1, gI_2, gI_3, gI_4, gI_5, gI_6, gI_7, gI_8, gI_9, gI_10, gI_11, gI_12, gI_13, gI_14, gI_15, gL_0, gL_1, gL_2, gL_3, gL_4, gL_5, gL_6, gL_7, gL_8, gL_9, gL_10, gL_11, gL_12, gL_13, gL_14, gL_15, gA_0, gA_1, gA_2, gA_3, gA_4, gA_5, gA_6, gA_7, gA_8, gA_9, gA_10, gA_11, gA_12, gA_13, gA_14, gA_15, p1_0, p1_1, p1_2, p1_3, p1_4, p1_5, p1_6, p1_7, p1_8, p1_9, p1_10, p1_11, p1_12, p1_13, p1_14, p1_15, p2_0, p2_1, p2_2, p2_3, p2_4, p2_5, p2_6, p2_7, p2_8, p2_9, p2_10, p2_11, p2_12, p2_13, p2_14, p2_15, b01_ok, b_ft, b_tf, b01_e0, b01_e1, lgc_0, not_true_eq_false, not_false_eq_true, bk, e1, e2, e3, e4, ix_nI j31, nI_pos' j31, j24]
  all_goals rfl
