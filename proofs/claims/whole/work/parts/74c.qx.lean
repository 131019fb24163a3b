-- written by gen73.py: the one side's questions
theorem rareA_lt {S : VS} {c : Nat} (h : (rareA S 40 (none, 7)).1 = some c) : c < 40 := by
  have : ∀ (n : Nat) (b : Option Nat × Nat), n ≤ 40 → (∀ a, b.1 = some a → a < 40) → ∀ a, (rareA S n b).1 = some a → a < 40 := fun n => by
    induction n with
    | zero => intro b _ hb a ha; exact hb a ha
    | succ n ih =>
      intro b hn hb a ha
      rw [rareA] at ha
      refine ih _ (by omega) (fun a2 h2 => ?_) a ha
      split at h2
      · cases h2; omega
      · exact hb a2 h2
  exact this 40 _ (Nat.le_refl _) (fun a ha => by cases ha) c h
set_option maxHeartbeats 8000000 in
theorem x_reach {d : Nat} {Q : PQ} {h : HP} {x : Nat} {p w : Int32} {S : VS} (X : XQ h x S) (g : Good S) (hy : vy S ≤ 999)
    (kr : ∀ y, why (!isPI S p) false false (!chB w) = y → ¬ y = 0 → Q (some (.int y)) (RfC h x y))
    (k : why (!isPI S p) false false (!chB w) = 0 → ∀ h', Fm (x + 20) 14 h h' → Q (some (.int (aReach S p w))) h') : Ev (d + 4) 218 [.ref x, .int p, .int w] h Q := by
  have K := X.1
  unfold XK at K
  have V := X.v.k
  unfold VK at V
  have F := X.2.1.1
  have gn := g.n
  have gl := g.l
  cases hp : isPI S p with
  | false =>
    simp only [e218, s218_0, s218_1, s218_2, s218_5, s218_8, s218_9, s218_12, s218_13, s218_14, s218_15, s218_16, s218_19, s218_22, s218_23, s218_26, s218_27, s218_30, s218_31, s218_32, s218_35, s218_36, s218_37, s218_40, s218_41, s218_42, s218_45, s218_46, s218_49, s218_50, s218_53, s218_56, s218_57, s218_60, s218_61, s218_64, oB_some, cl2_i, cl2_r, cl2_l, cl2_u, cl2_s, wd_0, wd_i, wd_r, wd_l, wd_f, ct_i, ct_r, ct_n, ct_f, rf_s, rf_n, tl_s, tl_n, true_and, and_true, eq_self, and_self, Nat.reduceAdd, Nat.reduceLeDiff, Nat.zero_le, Nat.reduceEqDiff, or_true, true_or, false_or, or_false, if_true, if_false, gI_0, gI_1, gI_2, gI_3, gI_4, gI_5, gI_6, gI_7, gI_8, gI_9, gI_10, gI_11, gI_12, gI_13, gI_14, gI_15, gL_0, gL_1, gL_2, gL_3, gL_4, gL_5, gL_6, gL_7, gL_8, gL_9, gL_10, gL_11, gL_12, gL_13, gL_14, gL_15, gA_0, gA_1, gA_2, gA_3, gA_4, gA_5, gA_6, gA_7, gA_8, gA_9, gA_10, gA_11, gA_12, gA_13, gA_14, gA_15, p1_0, p1_1, p1_2, p1_3, p1_4, p1_5, p1_6, p1_7, p1_8, p1_9, p1_10, p1_11, p1_12, p1_13, p1_14, p1_15, p2_0, p2_1, p2_2, p2_3, p2_4, p2_5, p2_6, p2_7, p2_8, p2_9, p2_10, p2_11, p2_12, p2_13, p2_14, p2_15, b01_ok, b_ft, b_tf, b01_e0, b01_e1, lgc_0, not_true_eq_false, not_false_eq_true, K, V, F, Bool.true_eq_false, Bool.false_eq_true, zm1, zm2, zm4, zm6, z10, v_whyNot, v_ref1 X, v_ref2 X, v_ref4 X, v_ref6 X, Bool.or_false, Bool.false_or, Bool.or_true, Bool.true_or, Bool.not_true, Bool.not_false, v_isThere X, v_isChoice, hp, ite_self]
    exact kr (-1) (by simp [why, hp]) (by decide)
  | true =>
    cases hw : chB w with
    | false =>
      simp only [e218, s218_0, s218_1, s218_2, s218_5, s218_8, s218_9, s218_12, s218_13, s218_14, s218_15, s218_16, s218_19, s218_22, s218_23, s218_26, s218_27, s218_30, s218_31, s218_32, s218_35, s218_36, s218_37, s218_40, s218_41, s218_42, s218_45, s218_46, s218_49, s218_50, s218_53, s218_56, s218_57, s218_60, s218_61, s218_64, oB_some, cl2_i, cl2_r, cl2_l, cl2_u, cl2_s, wd_0, wd_i, wd_r, wd_l, wd_f, ct_i, ct_r, ct_n, ct_f, rf_s, rf_n, tl_s, tl_n, true_and, and_true, eq_self, and_self, Nat.reduceAdd, Nat.reduceLeDiff, Nat.zero_le, Nat.reduceEqDiff, or_true, true_or, false_or, or_false, if_true, if_false, gI_0, gI_1, gI_2, gI_3, gI_4, gI_5, gI_6, gI_7, gI_8, gI_9, gI_10, gI_11, gI_12, gI_13, gI_14, gI_15, gL_0, gL_1, gL_2, gL_3, gL_4, gL_5, gL_6, gL_7, gL_8, gL_9, gL_10, gL_11, gL_12, gL_13, gL_14, gL_15, gA_0, gA_1, gA_2, gA_3, gA_4, gA_5, gA_6, gA_7, gA_8, gA_9, gA_10, gA_11, gA_12, gA_13, gA_14, gA_15, p1_0, p1_1, p1_2, p1_3, p1_4, p1_5, p1_6, p1_7, p1_8, p1_9, p1_10, p1_11, p1_12, p1_13, p1_14, p1_15, p2_0, p2_1, p2_2, p2_3, p2_4, p2_5, p2_6, p2_7, p2_8, p2_9, p2_10, p2_11, p2_12, p2_13, p2_14, p2_15, b01_ok, b_ft, b_tf, b01_e0, b01_e1, lgc_0, not_true_eq_false, not_false_eq_true, K, V, F, Bool.true_eq_false, Bool.false_eq_true, zm1, zm2, zm4, zm6, z10, v_whyNot, v_ref1 X, v_ref2 X, v_ref4 X, v_ref6 X, Bool.or_false, Bool.false_or, Bool.or_true, Bool.true_or, Bool.not_true, Bool.not_false, v_isThere X, v_isChoice, hp, hw, ite_self]
      exact kr (-2) (by simp [why, hp, hw]) (by decide)
    | true =>
      have kk := k (by simp [why, hp, hw])
      obtain ⟨i, hi, rfl⟩ := isPI_of g hp
      unfold aReach at kk
      rw [tc_n (show i < 2 ^ 31 by omega)] at kk
      simp only [e218, s218_0, s218_1, s218_2, s218_5, s218_8, s218_9, s218_12, s218_13, s218_14, s218_15, s218_16, s218_19, s218_22, s218_23, s218_26, s218_27, s218_30, s218_31, s218_32, s218_35, s218_36, s218_37, s218_40, s218_41, s218_42, s218_45, s218_46, s218_49, s218_50, s218_53, s218_56, s218_57, s218_60, s218_61, s218_64, oB_some, cl2_i, cl2_r, cl2_l, cl2_u, cl2_s, wd_0, wd_i, wd_r, wd_l, wd_f, ct_i, ct_r, ct_n, ct_f, rf_s, rf_n, tl_s, tl_n, true_and, and_true, eq_self, and_self, Nat.reduceAdd, Nat.reduceLeDiff, Nat.zero_le, Nat.reduceEqDiff, or_true, true_or, false_or, or_false, if_true, if_false, gI_0, gI_1, gI_2, gI_3, gI_4, gI_5, gI_6, gI_7, gI_8, gI_9, gI_10, gI_11, gI_12, gI_13, gI_14, gI_15, gL_0, gL_1, gL_2, gL_3, gL_4, gL_5, gL_6, gL_7, gL_8, gL_9, gL_10, gL_11, gL_12, gL_13, gL_14, gL_15, gA_0, gA_1, gA_2, gA_3, gA_4, gA_5, gA_6, gA_7, gA_8, gA_9, gA_10, gA_11, gA_12, gA_13, gA_14, gA_15, p1_0, p1_1, p1_2, p1_3, p1_4, p1_5, p1_6, p1_7, p1_8, p1_9, p1_10, p1_11, p1_12, p1_13, p1_14, p1_15, p2_0, p2_1, p2_2, p2_3, p2_4, p2_5, p2_6, p2_7, p2_8, p2_9, p2_10, p2_11, p2_12, p2_13, p2_14, p2_15, b01_ok, b_ft, b_tf, b01_e0, b01_e1, lgc_0, not_true_eq_false, not_false_eq_true, K, V, F, Bool.true_eq_false, Bool.false_eq_true, zm1, zm2, zm4, zm6, z10, v_whyNot, v_ref1 X, v_ref2 X, v_ref4 X, v_ref6 X, Bool.or_false, Bool.false_or, Bool.or_true, Bool.true_or, Bool.not_true, Bool.not_false, v_isThere X, v_isChoice, hp, hw, v_reachedFrom X.v g hi, v_ringFrom X.v g hi]
      by_cases e : w = 0
      · rw [if_neg (not_not_intro e)]
        rw [if_pos e] at kk
        exact kk h Fm.rf
      · rw [if_pos e]
        rw [if_neg e] at kk
        exact kk h Fm.rf
set_option maxHeartbeats 8000000 in
theorem x_common {d : Nat} {Q : PQ} {h : HP} {x : Nat} {a b w : Int32} {S : VS} (X : XQ h x S) (g : Good S) (hy : vy S ≤ 999)
    (kr : ∀ y, why (!arTwo S a b) false false (decide (w < 0) || decide (2 < w)) = y → ¬ y = 0 → Q (some (.int y)) (RfC h x y))
    (k : why (!arTwo S a b) false false (decide (w < 0) || decide (2 < w)) = 0 → ∀ h', Fm (x + 20) 14 h h' → Q (some (.int (aCommon S a b w))) h') : Ev (d + 4) 225 [.ref x, .int a, .int b, .int w] h Q := by
  have K := X.1
  unfold XK at K
  have V := X.v.k
  unfold VK at V
  have F := X.2.1.1
  have gn := g.n
  have gl := g.l
  cases hp : arTwo S a b with
  | false =>
    simp only [e225, s225_0, s225_1, s225_2, s225_3, s225_6, s225_9, s225_10, s225_13, s225_14, s225_15, s225_16, s225_17, s225_20, s225_21, s225_22, s225_25, s225_26, s225_29, s225_30, s225_33, s225_35, s225_37, s225_40, s225_41, s225_43, s225_46, s225_47, s225_48, s225_51, s225_52, s225_55, s225_57, s225_58, s225_61, s225_62, s225_65, s225_67, s225_68, s225_71, s225_73, s225_75, s225_76, s225_79, s225_80, s225_81, s225_82, s225_85, s225_87, s225_89, s225_90, s225_93, s225_95, s225_97, s225_100, s225_101, s225_102, s225_105, oB_some, cl2_i, cl2_r, cl2_l, cl2_u, cl2_s, wd_0, wd_i, wd_r, wd_l, wd_f, ct_i, ct_r, ct_n, ct_f, rf_s, rf_n, tl_s, tl_n, true_and, and_true, eq_self, and_self, Nat.reduceAdd, Nat.reduceLeDiff, Nat.zero_le, Nat.reduceEqDiff, or_true, true_or, false_or, or_false, if_true, if_false, gI_0, gI_1, gI_2, gI_3, gI_4, gI_5, gI_6, gI_7, gI_8, gI_9, gI_10, gI_11, gI_12, gI_13, gI_14, gI_15, gL_0, gL_1, gL_2, gL_3, gL_4, gL_5, gL_6, gL_7, gL_8, gL_9, gL_10, gL_11, gL_12, gL_13, gL_14, gL_15, gA_0, gA_1, gA_2, gA_3, gA_4, gA_5, gA_6, gA_7, gA_8, gA_9, gA_10, gA_11, gA_12, gA_13, gA_14, gA_15, p1_0, p1_1, p1_2, p1_3, p1_4, p1_5, p1_6, p1_7, p1_8, p1_9, p1_10, p1_11, p1_12, p1_13, p1_14, p1_15, p2_0, p2_1, p2_2, p2_3, p2_4, p2_5, p2_6, p2_7, p2_8, p2_9, p2_10, p2_11, p2_12, p2_13, p2_14, p2_15, b01_ok, b_ft, b_tf, b01_e0, b01_e1, lgc_0, not_true_eq_false, not_false_eq_true, K, V, F, Bool.true_eq_false, Bool.false_eq_true, zm1, zm2, zm4, zm6, z10, v_whyNot, v_ref1 X, v_ref2 X, v_ref4 X, v_ref6 X, Bool.or_false, Bool.false_or, Bool.or_true, Bool.true_or, Bool.not_true, Bool.not_false, v_areTwo X, hp, ite_self]
    exact kr (-1) (by simp [why, hp]) (by decide)
  | true =>
    by_cases h0 : w < 0
    · have h0n := Int32.not_le.mpr h0
      simp only [e225, s225_0, s225_1, s225_2, s225_3, s225_6, s225_9, s225_10, s225_13, s225_14, s225_15, s225_16, s225_17, s225_20, s225_21, s225_22, s225_25, s225_26, s225_29, s225_30, s225_33, s225_35, s225_37, s225_40, s225_41, s225_43, s225_46, s225_47, s225_48, s225_51, s225_52, s225_55, s225_57, s225_58, s225_61, s225_62, s225_65, s225_67, s225_68, s225_71, s225_73, s225_75, s225_76, s225_79, s225_80, s225_81, s225_82, s225_85, s225_87, s225_89, s225_90, s225_93, s225_95, s225_97, s225_100, s225_101, s225_102, s225_105, oB_some, cl2_i, cl2_r, cl2_l, cl2_u, cl2_s, wd_0, wd_i, wd_r, wd_l, wd_f, ct_i, ct_r, ct_n, ct_f, rf_s, rf_n, tl_s, tl_n, true_and, and_true, eq_self, and_self, Nat.reduceAdd, Nat.reduceLeDiff, Nat.zero_le, Nat.reduceEqDiff, or_true, true_or, false_or, or_false, if_true, if_false, gI_0, gI_1, gI_2, gI_3, gI_4, gI_5, gI_6, gI_7, gI_8, gI_9, gI_10, gI_11, gI_12, gI_13, gI_14, gI_15, gL_0, gL_1, gL_2, gL_3, gL_4, gL_5, gL_6, gL_7, gL_8, gL_9, gL_10, gL_11, gL_12, gL_13, gL_14, gL_15, gA_0, gA_1, gA_2, gA_3, gA_4, gA_5, gA_6, gA_7, gA_8, gA_9, gA_10, gA_11, gA_12, gA_13, gA_14, gA_15, p1_0, p1_1, p1_2, p1_3, p1_4, p1_5, p1_6, p1_7, p1_8, p1_9, p1_10, p1_11, p1_12, p1_13, p1_14, p1_15, p2_0, p2_1, p2_2, p2_3, p2_4, p2_5, p2_6, p2_7, p2_8, p2_9, p2_10, p2_11, p2_12, p2_13, p2_14, p2_15, b01_ok, b_ft, b_tf, b01_e0, b01_e1, lgc_0, not_true_eq_false, not_false_eq_true, K, V, F, Bool.true_eq_false, Bool.false_eq_true, zm1, zm2, zm4, zm6, z10, v_whyNot, v_ref1 X, v_ref2 X, v_ref4 X, v_ref6 X, Bool.or_false, Bool.false_or, Bool.or_true, Bool.true_or, Bool.not_true, Bool.not_false, v_areTwo X, hp, h0, h0n, ite_self]
      exact kr (-2) (by simp [why, hp, h0, h0n]) (by decide)
    · have h0n := Int32.not_lt.mp h0
      by_cases h1 : 2 < w
      · have h1n := Int32.not_le.mpr h1
        simp only [e225, s225_0, s225_1, s225_2, s225_3, s225_6, s225_9, s225_10, s225_13, s225_14, s225_15, s225_16, s225_17, s225_20, s225_21, s225_22, s225_25, s225_26, s225_29, s225_30, s225_33, s225_35, s225_37, s225_40, s225_41, s225_43, s225_46, s225_47, s225_48, s225_51, s225_52, s225_55, s225_57, s225_58, s225_61, s225_62, s225_65, s225_67, s225_68, s225_71, s225_73, s225_75, s225_76, s225_79, s225_80, s225_81, s225_82, s225_85, s225_87, s225_89, s225_90, s225_93, s225_95, s225_97, s225_100, s225_101, s225_102, s225_105, oB_some, cl2_i, cl2_r, cl2_l, cl2_u, cl2_s, wd_0, wd_i, wd_r, wd_l, wd_f, ct_i, ct_r, ct_n, ct_f, rf_s, rf_n, tl_s, tl_n, true_and, and_true, eq_self, and_self, Nat.reduceAdd, Nat.reduceLeDiff, Nat.zero_le, Nat.reduceEqDiff, or_true, true_or, false_or, or_false, if_true, if_false, gI_0, gI_1, gI_2, gI_3, gI_4, gI_5, gI_6, gI_7, gI_8, gI_9, gI_10, gI_11, gI_12, gI_13, gI_14, gI_15, gL_0, gL_1, gL_2, gL_3, gL_4, gL_5, gL_6, gL_7, gL_8, gL_9, gL_10, gL_11, gL_12, gL_13, gL_14, gL_15, gA_0, gA_1, gA_2, gA_3, gA_4, gA_5, gA_6, gA_7, gA_8, gA_9, gA_10, gA_11, gA_12, gA_13, gA_14, gA_15, p1_0, p1_1, p1_2, p1_3, p1_4, p1_5, p1_6, p1_7, p1_8, p1_9, p1_10, p1_11, p1_12, p1_13, p1_14, p1_15, p2_0, p2_1, p2_2, p2_3, p2_4, p2_5, p2_6, p2_7, p2_8, p2_9, p2_10, p2_11, p2_12, p2_13, p2_14, p2_15, b01_ok, b_ft, b_tf, b01_e0, b01_e1, lgc_0, not_true_eq_false, not_false_eq_true, K, V, F, Bool.true_eq_false, Bool.false_eq_true, zm1, zm2, zm4, zm6, z10, v_whyNot, v_ref1 X, v_ref2 X, v_ref4 X, v_ref6 X, Bool.or_false, Bool.false_or, Bool.or_true, Bool.true_or, Bool.not_true, Bool.not_false, v_areTwo X, hp, h0n, h0, h1, h1n, ite_self]
        exact kr (-2) (by simp [why, hp, h0n, h0, h1, h1n]) (by decide)
      · have h1n := Int32.not_lt.mp h1
        have kk := k (by simp [why, hp, h0n, h0, h1n, h1])
        have hp2 := hp
        unfold arTwo at hp2
        rw [Bool.and_eq_true, Bool.and_eq_true] at hp2
        obtain ⟨i, hi, rfl⟩ := isPI_of g hp2.1.1
        obtain ⟨i2, hi2, rfl⟩ := isPI_of g hp2.1.2
        have s1 := (g.at hi).2.2.2.1
        unfold aCommon at kk
        rw [tc_n (show i < 2 ^ 31 by omega), tc_n (show i2 < 2 ^ 31 by omega)] at kk
        simp only [e225, s225_0, s225_1, s225_2, s225_3, s225_6, s225_9, s225_10, s225_13, s225_14, s225_15, s225_16, s225_17, s225_20, s225_21, s225_22, s225_25, s225_26, s225_29, s225_30, s225_33, s225_35, s225_37, s225_40, s225_41, s225_43, s225_46, s225_47, s225_48, s225_51, s225_52, s225_55, s225_57, s225_58, s225_61, s225_62, s225_65, s225_67, s225_68, s225_71, s225_73, s225_75, s225_76, s225_79, s225_80, s225_81, s225_82, s225_85, s225_87, s225_89, s225_90, s225_93, s225_95, s225_97, s225_100, s225_101, s225_102, s225_105, oB_some, cl2_i, cl2_r, cl2_l, cl2_u, cl2_s, wd_0, wd_i, wd_r, wd_l, wd_f, ct_i, ct_r, ct_n, ct_f, rf_s, rf_n, tl_s, tl_n, true_and, and_true, eq_self, and_self, Nat.reduceAdd, Nat.reduceLeDiff, Nat.zero_le, Nat.reduceEqDiff, or_true, true_or, false_or, or_false, if_true, if_false, gI_0, gI_1, gI_2, gI_3, gI_4, gI_5, gI_6, gI_7, gI_8, gI_9, gI_10, gI_11, gI_12, gI_13, gI_14, gI_15, gL_0, gL_1, gL_2, gL_3, gL_4, gL_5, gL_6, gL_7, gL_8, gL_9, gL_10, gL_11, gL_12, gL_13, gL_14, gL_15, gA_0, gA_1, gA_2, gA_3, gA_4, gA_5, gA_6, gA_7, gA_8, gA_9, gA_10, gA_11, gA_12, gA_13, gA_14, gA_15, p1_0, p1_1, p1_2, p1_3, p1_4, p1_5, p1_6, p1_7, p1_8, p1_9, p1_10, p1_11, p1_12, p1_13, p1_14, p1_15, p2_0, p2_1, p2_2, p2_3, p2_4, p2_5, p2_6, p2_7, p2_8, p2_9, p2_10, p2_11, p2_12, p2_13, p2_14, p2_15, b01_ok, b_ft, b_tf, b01_e0, b01_e1, lgc_0, not_true_eq_false, not_false_eq_true, K, V, F, Bool.true_eq_false, Bool.false_eq_true, zm1, zm2, zm4, zm6, z10, v_whyNot, v_ref1 X, v_ref2 X, v_ref4 X, v_ref6 X, Bool.or_false, Bool.false_or, Bool.or_true, Bool.true_or, Bool.not_true, Bool.not_false, v_areTwo X, hp, h0n, h0, h1n, h1, v_knownBy X.v g hi, v_knownBy X.v g hi2, v_bitCount (sm_and s1), v_bitCount (sm_or s1 (g.at hi2).2.2.2.1)]
        by_cases e : w = 0
        · rw [if_neg (not_not_intro e)]
          rw [if_pos e] at kk
          exact kk h Fm.rf
        · rw [if_pos e]
          rw [if_neg e] at kk
          by_cases e2 : w = 1
          · rw [if_neg (not_not_intro e2)]
            rw [if_pos e2] at kk
            exact kk h Fm.rf
          · rw [if_pos e2]
            rw [if_neg e2] at kk
            exact kk h Fm.rf
set_option maxHeartbeats 8000000 in
theorem x_rarest {d : Nat} {Q : PQ} {h : HP} {x : Nat} {w : Int32} {S : VS} (X : XQ h x S) (g : Good S) (hy : vy S ≤ 999)
    (kr : ∀ y, why false false false (decide (w < 0) || decide (2 < w)) = y → ¬ y = 0 → Q (some (.int y)) (RfC h x y))
    (k : why false false false (decide (w < 0) || decide (2 < w)) = 0 → ∀ h', Fm (x + 20) 14 h h' → Q (some (.int (aRarest S w))) h') : Ev (d + 6) 227 [.ref x, .int w] h Q := by
  have K := X.1
  unfold XK at K
  have V := X.v.k
  unfold VK at V
  have F := X.2.1.1
  have gn := g.n
  have gl := g.l
  by_cases h0 : w < 0
  · have h0n := Int32.not_le.mpr h0
    simp only [e227, s227_0, s227_1, s227_4, s227_5, s227_6, s227_9, s227_10, s227_12, s227_15, s227_16, s227_17, s227_20, s227_23, s227_24, s227_25, s227_28, s227_29, s227_30, s227_31, s227_32, s227_35, s227_36, s227_39, s227_40, s227_43, s227_46, s227_48, s227_49, s227_52, s227_55, s227_58, s227_59, oB_some, cl2_i, cl2_r, cl2_l, cl2_u, cl2_s, wd_0, wd_i, wd_r, wd_l, wd_f, ct_i, ct_r, ct_n, ct_f, rf_s, rf_n, tl_s, tl_n, true_and, and_true, eq_self, and_self, Nat.reduceAdd, Nat.reduceLeDiff, Nat.zero_le, Nat.reduceEqDiff, or_true, true_or, false_or, or_false, if_true, if_false, gI_0, gI_1, gI_2, gI_3, gI_4, gI_5, gI_6, gI_7, gI_8, gI_9, gI_10, gI_11, gI_12, gI_13, gI_14, gI_15, gL_0, gL_1, gL_2, gL_3, gL_4, gL_5, gL_6, gL_7, gL_8, gL_9, gL_10, gL_11, gL_12, gL_13, gL_14, gL_15, gA_0, gA_1, gA_2, gA_3, gA_4, gA_5, gA_6, gA_7, gA_8, gA_9, gA_10, gA_11, gA_12, gA_13, gA_14, gA_15, p1_0, p1_1, p1_2, p1_3, p1_4, p1_5, p1_6, p1_7, p1_8, p1_9, p1_10, p1_11, p1_12, p1_13, p1_14, p1_15, p2_0, p2_1, p2_2, p2_3, p2_4, p2_5, p2_6, p2_7, p2_8, p2_9, p2_10, p2_11, p2_12, p2_13, p2_14, p2_15, b01_ok, b_ft, b_tf, b01_e0, b01_e1, lgc_0, not_true_eq_false, not_false_eq_true, K, V, F, Bool.true_eq_false, Bool.false_eq_true, zm1, zm2, zm4, zm6, z10, v_whyNot, v_ref1 X, v_ref2 X, v_ref4 X, v_ref6 X, Bool.or_false, Bool.false_or, Bool.or_true, Bool.true_or, Bool.not_true, Bool.not_false, h0, h0n, ite_self]
    exact kr (-2) (by simp [why, h0, h0n]) (by decide)
  · have h0n := Int32.not_lt.mp h0
    by_cases h1 : 2 < w
    · have h1n := Int32.not_le.mpr h1
      simp only [e227, s227_0, s227_1, s227_4, s227_5, s227_6, s227_9, s227_10, s227_12, s227_15, s227_16, s227_17, s227_20, s227_23, s227_24, s227_25, s227_28, s227_29, s227_30, s227_31, s227_32, s227_35, s227_36, s227_39, s227_40, s227_43, s227_46, s227_48, s227_49, s227_52, s227_55, s227_58, s227_59, oB_some, cl2_i, cl2_r, cl2_l, cl2_u, cl2_s, wd_0, wd_i, wd_r, wd_l, wd_f, ct_i, ct_r, ct_n, ct_f, rf_s, rf_n, tl_s, tl_n, true_and, and_true, eq_self, and_self, Nat.reduceAdd, Nat.reduceLeDiff, Nat.zero_le, Nat.reduceEqDiff, or_true, true_or, false_or, or_false, if_true, if_false, gI_0, gI_1, gI_2, gI_3, gI_4, gI_5, gI_6, gI_7, gI_8, gI_9, gI_10, gI_11, gI_12, gI_13, gI_14, gI_15, gL_0, gL_1, gL_2, gL_3, gL_4, gL_5, gL_6, gL_7, gL_8, gL_9, gL_10, gL_11, gL_12, gL_13, gL_14, gL_15, gA_0, gA_1, gA_2, gA_3, gA_4, gA_5, gA_6, gA_7, gA_8, gA_9, gA_10, gA_11, gA_12, gA_13, gA_14, gA_15, p1_0, p1_1, p1_2, p1_3, p1_4, p1_5, p1_6, p1_7, p1_8, p1_9, p1_10, p1_11, p1_12, p1_13, p1_14, p1_15, p2_0, p2_1, p2_2, p2_3, p2_4, p2_5, p2_6, p2_7, p2_8, p2_9, p2_10, p2_11, p2_12, p2_13, p2_14, p2_15, b01_ok, b_ft, b_tf, b01_e0, b01_e1, lgc_0, not_true_eq_false, not_false_eq_true, K, V, F, Bool.true_eq_false, Bool.false_eq_true, zm1, zm2, zm4, zm6, z10, v_whyNot, v_ref1 X, v_ref2 X, v_ref4 X, v_ref6 X, Bool.or_false, Bool.false_or, Bool.or_true, Bool.true_or, Bool.not_true, Bool.not_false, h0n, h0, h1, h1n, ite_self]
      exact kr (-2) (by simp [why, h0n, h0, h1, h1n]) (by decide)
    · have h1n := Int32.not_lt.mp h1
      have kk := k (by simp [why, h0n, h0, h1n, h1])
      have sa : sm (anyW S) := by
        unfold anyW
        have : ∀ n, n ≤ vn S → sm (orN (vw S) n) := fun n => by
          induction n with
          | zero => intro _; exact sm_0
          | succ n ih => intro hn; exact sm_or (ih (by omega)) (g.at (by omega)).2.2.2.1
        exact this _ (Nat.le_refl _)
      unfold aRarest at kk
      cases e : (rareA S 40 (none, 7)).1 with
      | none =>
        rw [e] at kk
        simp only [e227, s227_0, s227_1, s227_4, s227_5, s227_6, s227_9, s227_10, s227_12, s227_15, s227_16, s227_17, s227_20, s227_23, s227_24, s227_25, s227_28, s227_29, s227_30, s227_31, s227_32, s227_35, s227_36, s227_39, s227_40, s227_43, s227_46, s227_48, s227_49, s227_52, s227_55, s227_58, s227_59, oB_some, cl2_i, cl2_r, cl2_l, cl2_u, cl2_s, wd_0, wd_i, wd_r, wd_l, wd_f, ct_i, ct_r, ct_n, ct_f, rf_s, rf_n, tl_s, tl_n, true_and, and_true, eq_self, and_self, Nat.reduceAdd, Nat.reduceLeDiff, Nat.zero_le, Nat.reduceEqDiff, or_true, true_or, false_or, or_false, if_true, if_false, gI_0, gI_1, gI_2, gI_3, gI_4, gI_5, gI_6, gI_7, gI_8, gI_9, gI_10, gI_11, gI_12, gI_13, gI_14, gI_15, gL_0, gL_1, gL_2, gL_3, gL_4, gL_5, gL_6, gL_7, gL_8, gL_9, gL_10, gL_11, gL_12, gL_13, gL_14, gL_15, gA_0, gA_1, gA_2, gA_3, gA_4, gA_5, gA_6, gA_7, gA_8, gA_9, gA_10, gA_11, gA_12, gA_13, gA_14, gA_15, p1_0, p1_1, p1_2, p1_3, p1_4, p1_5, p1_6, p1_7, p1_8, p1_9, p1_10, p1_11, p1_12, p1_13, p1_14, p1_15, p2_0, p2_1, p2_2, p2_3, p2_4, p2_5, p2_6, p2_7, p2_8, p2_9, p2_10, p2_11, p2_12, p2_13, p2_14, p2_15, b01_ok, b_ft, b_tf, b01_e0, b01_e1, lgc_0, not_true_eq_false, not_false_eq_true, K, V, F, Bool.true_eq_false, Bool.false_eq_true, zm1, zm2, zm4, zm6, z10, v_whyNot, v_ref1 X, v_ref2 X, v_ref4 X, v_ref6 X, Bool.or_false, Bool.false_or, Bool.or_true, Bool.true_or, Bool.not_true, Bool.not_false, h0n, h0, h1n, h1, v_rarest X.v g, e, oN_none, v_howManyKnow9 X.v g, v_knownByAny X.v g, v_bitCount sa]
        by_cases e1 : w = 0
        · rw [if_neg (not_not_intro e1)]
          rw [if_pos e1] at kk
          exact kk h Fm.rf
        · rw [if_pos e1]
          rw [if_neg e1] at kk
          by_cases e2 : w = 1
          · rw [if_neg (not_not_intro e2)]
            rw [if_pos e2] at kk
            exact kk h Fm.rf
          · rw [if_pos e2]
            rw [if_neg e2] at kk
            exact kk h Fm.rf
      | some c =>
        rw [e] at kk
        have hc := rareA_lt e
        simp only [e227, s227_0, s227_1, s227_4, s227_5, s227_6, s227_9, s227_10, s227_12, s227_15, s227_16, s227_17, s227_20, s227_23, s227_24, s227_25, s227_28, s227_29, s227_30, s227_31, s227_32, s227_35, s227_36, s227_39, s227_40, s227_43, s227_46, s227_48, s227_49, s227_52, s227_55, s227_58, s227_59, oB_some, cl2_i, cl2_r, cl2_l, cl2_u, cl2_s, wd_0, wd_i, wd_r, wd_l, wd_f, ct_i, ct_r, ct_n, ct_f, rf_s, rf_n, tl_s, tl_n, true_and, and_true, eq_self, and_self, Nat.reduceAdd, Nat.reduceLeDiff, Nat.zero_le, Nat.reduceEqDiff, or_true, true_or, false_or, or_false, if_true, if_false, gI_0, gI_1, gI_2, gI_3, gI_4, gI_5, gI_6, gI_7, gI_8, gI_9, gI_10, gI_11, gI_12, gI_13, gI_14, gI_15, gL_0, gL_1, gL_2, gL_3, gL_4, gL_5, gL_6, gL_7, gL_8, gL_9, gL_10, gL_11, gL_12, gL_13, gL_14, gL_15, gA_0, gA_1, gA_2, gA_3, gA_4, gA_5, gA_6, gA_7, gA_8, gA_9, gA_10, gA_11, gA_12, gA_13, gA_14, gA_15, p1_0, p1_1, p1_2, p1_3, p1_4, p1_5, p1_6, p1_7, p1_8, p1_9, p1_10, p1_11, p1_12, p1_13, p1_14, p1_15, p2_0, p2_1, p2_2, p2_3, p2_4, p2_5, p2_6, p2_7, p2_8, p2_9, p2_10, p2_11, p2_12, p2_13, p2_14, p2_15, b01_ok, b_ft, b_tf, b01_e0, b01_e1, lgc_0, not_true_eq_false, not_false_eq_true, K, V, F, Bool.true_eq_false, Bool.false_eq_true, zm1, zm2, zm4, zm6, z10, v_whyNot, v_ref1 X, v_ref2 X, v_ref4 X, v_ref6 X, Bool.or_false, Bool.false_or, Bool.or_true, Bool.true_or, Bool.not_true, Bool.not_false, h0n, h0, h1n, h1, v_rarest X.v g, e, oN_some, v_howManyKnow X.v g (show c < 64 by omega), v_knownByAny X.v g, v_bitCount sa]
        by_cases e1 : w = 0
        · rw [if_neg (not_not_intro e1)]
          rw [if_pos e1] at kk
          exact kk h Fm.rf
        · rw [if_pos e1]
          rw [if_neg e1] at kk
          by_cases e2 : w = 1
          · rw [if_neg (not_not_intro e2)]
            rw [if_pos e2] at kk
            exact kk h Fm.rf
          · rw [if_pos e2]
            rw [if_neg e2] at kk
            exact kk h Fm.rf
set_option maxHeartbeats 8000000 in
theorem x_bag {d : Nat} {Q : PQ} {h : HP} {x : Nat} {w : Int32} {S : VS} (X : XQ h x S) (g : Good S) (hy : vy S ≤ 999)
    (kr : ∀ y, why false false false (decide (w < 0) || decide (2 < w)) = y → ¬ y = 0 → Q (some (.int y)) (RfC h x y))
    (k : why false false false (decide (w < 0) || decide (2 < w)) = 0 → ∀ h', Fm (x + 20) 14 h h' → Q (some (.int (aBag S w))) h') : Ev (d + 8) 237 [.ref x, .int w] h Q := by
  have K := X.1
  unfold XK at K
  have V := X.v.k
  unfold VK at V
  have F := X.2.1.1
  have gn := g.n
  have gl := g.l
  by_cases h0 : w < 0
  · have h0n := Int32.not_le.mpr h0
    simp only [e237, s237_0, s237_1, s237_4, s237_5, s237_6, s237_9, s237_10, s237_12, s237_15, s237_16, s237_17, s237_20, s237_21, s237_24, s237_27, s237_30, s237_31, s237_32, s237_33, s237_36, s237_37, s237_40, s237_43, s237_46, s237_47, s237_50, s237_53, s237_56, oB_some, cl2_i, cl2_r, cl2_l, cl2_u, cl2_s, wd_0, wd_i, wd_r, wd_l, wd_f, ct_i, ct_r, ct_n, ct_f, rf_s, rf_n, tl_s, tl_n, true_and, and_true, eq_self, and_self, Nat.reduceAdd, Nat.reduceLeDiff, Nat.zero_le, Nat.reduceEqDiff, or_true, true_or, false_or, or_false, if_true, if_false, gI_0, gI_1, gI_2, gI_3, gI_4, gI_5, gI_6, gI_7, gI_8, gI_9, gI_10, gI_11, gI_12, gI_13, gI_14, gI_15, gL_0, gL_1, gL_2, gL_3, gL_4, gL_5, gL_6, gL_7, gL_8, gL_9, gL_10, gL_11, gL_12, gL_13, gL_14, gL_15, gA_0, gA_1, gA_2, gA_3, gA_4, gA_5, gA_6, gA_7, gA_8, gA_9, gA_10, gA_11, gA_12, gA_13, gA_14, gA_15, p1_0, p1_1, p1_2, p1_3, p1_4, p1_5, p1_6, p1_7, p1_8, p1_9, p1_10, p1_11, p1_12, p1_13, p1_14, p1_15, p2_0, p2_1, p2_2, p2_3, p2_4, p2_5, p2_6, p2_7, p2_8, p2_9, p2_10, p2_11, p2_12, p2_13, p2_14, p2_15, b01_ok, b_ft, b_tf, b01_e0, b01_e1, lgc_0, not_true_eq_false, not_false_eq_true, K, V, F, Bool.true_eq_false, Bool.false_eq_true, zm1, zm2, zm4, zm6, z10, v_whyNot, v_ref1 X, v_ref2 X, v_ref4 X, v_ref6 X, Bool.or_false, Bool.false_or, Bool.or_true, Bool.true_or, Bool.not_true, Bool.not_false, h0, h0n, ite_self]
    exact kr (-2) (by simp [why, h0, h0n]) (by decide)
  · have h0n := Int32.not_lt.mp h0
    by_cases h1 : 2 < w
    · have h1n := Int32.not_le.mpr h1
      simp only [e237, s237_0, s237_1, s237_4, s237_5, s237_6, s237_9, s237_10, s237_12, s237_15, s237_16, s237_17, s237_20, s237_21, s237_24, s237_27, s237_30, s237_31, s237_32, s237_33, s237_36, s237_37, s237_40, s237_43, s237_46, s237_47, s237_50, s237_53, s237_56, oB_some, cl2_i, cl2_r, cl2_l, cl2_u, cl2_s, wd_0, wd_i, wd_r, wd_l, wd_f, ct_i, ct_r, ct_n, ct_f, rf_s, rf_n, tl_s, tl_n, true_and, and_true, eq_self, and_self, Nat.reduceAdd, Nat.reduceLeDiff, Nat.zero_le, Nat.reduceEqDiff, or_true, true_or, false_or, or_false, if_true, if_false, gI_0, gI_1, gI_2, gI_3, gI_4, gI_5, gI_6, gI_7, gI_8, gI_9, gI_10, gI_11, gI_12, gI_13, gI_14, gI_15, gL_0, gL_1, gL_2, gL_3, gL_4, gL_5, gL_6, gL_7, gL_8, gL_9, gL_10, gL_11, gL_12, gL_13, gL_14, gL_15, gA_0, gA_1, gA_2, gA_3, gA_4, gA_5, gA_6, gA_7, gA_8, gA_9, gA_10, gA_11, gA_12, gA_13, gA_14, gA_15, p1_0, p1_1, p1_2, p1_3, p1_4, p1_5, p1_6, p1_7, p1_8, p1_9, p1_10, p1_11, p1_12, p1_13, p1_14, p1_15, p2_0, p2_1, p2_2, p2_3, p2_4, p2_5, p2_6, p2_7, p2_8, p2_9, p2_10, p2_11, p2_12, p2_13, p2_14, p2_15, b01_ok, b_ft, b_tf, b01_e0, b01_e1, lgc_0, not_true_eq_false, not_false_eq_true, K, V, F, Bool.true_eq_false, Bool.false_eq_true, zm1, zm2, zm4, zm6, z10, v_whyNot, v_ref1 X, v_ref2 X, v_ref4 X, v_ref6 X, Bool.or_false, Bool.false_or, Bool.or_true, Bool.true_or, Bool.not_true, Bool.not_false, h0n, h0, h1, h1n, ite_self]
      exact kr (-2) (by simp [why, h0n, h0, h1, h1n]) (by decide)
    · have h1n := Int32.not_lt.mp h1
      have kk := k (by simp [why, h0n, h0, h1n, h1])
      unfold aBag at kk
      by_cases e1 : w = 0
      · rw [if_pos e1] at kk
        subst e1
        simp only [e237, oB_some, cl2_i, cl2_r, cl2_l, cl2_u, cl2_s, wd_0, wd_i, wd_r, wd_l, wd_f, ct_i, ct_r, ct_n, ct_f, rf_s, rf_n, tl_s, tl_n, true_and, and_true, eq_self, and_self, Nat.reduceAdd, Nat.reduceLeDiff, Nat.zero_le, Nat.reduceEqDiff, or_true, true_or, false_or, or_false, if_true, if_false, gI_0, gI_1, gI_2, gI_3, gI_4, gI_5, gI_6, gI_7, gI_8, gI_9, gI_10, gI_11, gI_12, gI_13, gI_14, gI_15, gL_0, gL_1, gL_2, gL_3, gL_4, gL_5, gL_6, gL_7, gL_8, gL_9, gL_10, gL_11, gL_12, gL_13, gL_14, gL_15, gA_0, gA_1, gA_2, gA_3, gA_4, gA_5, gA_6, gA_7, gA_8, gA_9, gA_10, gA_11, gA_12, gA_13, gA_14, gA_15, p1_0, p1_1, p1_2, p1_3, p1_4, p1_5, p1_6, p1_7, p1_8, p1_9, p1_10, p1_11, p1_12, p1_13, p1_14, p1_15, p2_0, p2_1, p2_2, p2_3, p2_4, p2_5, p2_6, p2_7, p2_8, p2_9, p2_10, p2_11, p2_12, p2_13, p2_14, p2_15, b01_ok, b_ft, b_tf, b01_e0, b01_e1, lgc_0, not_true_eq_false, not_false_eq_true, K, V, F, Bool.true_eq_false, Bool.false_eq_true, zm1, zm2, zm4, zm6, z10, v_whyNot, v_ref1 X, v_ref2 X, v_ref4 X, v_ref6 X, Bool.or_false, Bool.false_or, Bool.or_true, Bool.true_or, Bool.not_true, Bool.not_false, h0n, h0, h1n, h1, s237_0, s237_1, s237_4, s237_5, s237_6, s237_9, s237_10, s237_12, s237_15, s237_16, s237_17, s237_20, s237_21, s237_24]
        refine v_asItIs X.2.1 g fun h1 m1 q1 f1 => ?_
        have K1 := q1.k
        unfold VK at K1
        simp only [s237_27, oB_some, cl2_i, cl2_r, cl2_l, cl2_u, cl2_s, wd_0, wd_i, wd_r, wd_l, wd_f, ct_i, ct_r, ct_n, ct_f, rf_s, rf_n, tl_s, tl_n, true_and, and_true, eq_self, and_self, Nat.reduceAdd, Nat.reduceLeDiff, Nat.zero_le, Nat.reduceEqDiff, or_true, true_or, false_or, or_false, if_true, if_false, gI_0, gI_1, gI_2, gI_3, gI_4, gI_5, gI_6, gI_7, gI_8, gI_9, gI_10, gI_11, gI_12, gI_13, gI_14, gI_15, gL_0, gL_1, gL_2, gL_3, gL_4, gL_5, gL_6, gL_7, gL_8, gL_9, gL_10, gL_11, gL_12, gL_13, gL_14, gL_15, gA_0, gA_1, gA_2, gA_3, gA_4, gA_5, gA_6, gA_7, gA_8, gA_9, gA_10, gA_11, gA_12, gA_13, gA_14, gA_15, p1_0, p1_1, p1_2, p1_3, p1_4, p1_5, p1_6, p1_7, p1_8, p1_9, p1_10, p1_11, p1_12, p1_13, p1_14, p1_15, p2_0, p2_1, p2_2, p2_3, p2_4, p2_5, p2_6, p2_7, p2_8, p2_9, p2_10, p2_11, p2_12, p2_13, p2_14, p2_15, b01_ok, b_ft, b_tf, b01_e0, b01_e1, lgc_0, not_true_eq_false, not_false_eq_true, K1]
        refine v_haveWholeBag q1 g f1 fun h2 m2 q2 f2 => ?_
        simp only [s237_30, oB_some, cl2_i, cl2_r, cl2_l, cl2_u, cl2_s, wd_0, wd_i, wd_r, wd_l, wd_f, ct_i, ct_r, ct_n, ct_f, rf_s, rf_n, tl_s, tl_n, true_and, and_true, eq_self, and_self, Nat.reduceAdd, Nat.reduceLeDiff, Nat.zero_le, Nat.reduceEqDiff, or_true, true_or, false_or, or_false, if_true, if_false, gI_0, gI_1, gI_2, gI_3, gI_4, gI_5, gI_6, gI_7, gI_8, gI_9, gI_10, gI_11, gI_12, gI_13, gI_14, gI_15, gL_0, gL_1, gL_2, gL_3, gL_4, gL_5, gL_6, gL_7, gL_8, gL_9, gL_10, gL_11, gL_12, gL_13, gL_14, gL_15, gA_0, gA_1, gA_2, gA_3, gA_4, gA_5, gA_6, gA_7, gA_8, gA_9, gA_10, gA_11, gA_12, gA_13, gA_14, gA_15, p1_0, p1_1, p1_2, p1_3, p1_4, p1_5, p1_6, p1_7, p1_8, p1_9, p1_10, p1_11, p1_12, p1_13, p1_14, p1_15, p2_0, p2_1, p2_2, p2_3, p2_4, p2_5, p2_6, p2_7, p2_8, p2_9, p2_10, p2_11, p2_12, p2_13, p2_14, p2_15, b01_ok, b_ft, b_tf, b01_e0, b01_e1, lgc_0, not_true_eq_false, not_false_eq_true]
        exact kk h2 ((m1.tr m2).wide (Nat.le_refl _) (by omega))
      · rw [if_neg e1] at kk
        by_cases e2 : w = 1
        · rw [if_pos e2] at kk
          subst e2
          simp only [e237, oB_some, cl2_i, cl2_r, cl2_l, cl2_u, cl2_s, wd_0, wd_i, wd_r, wd_l, wd_f, ct_i, ct_r, ct_n, ct_f, rf_s, rf_n, tl_s, tl_n, true_and, and_true, eq_self, and_self, Nat.reduceAdd, Nat.reduceLeDiff, Nat.zero_le, Nat.reduceEqDiff, or_true, true_or, false_or, or_false, if_true, if_false, gI_0, gI_1, gI_2, gI_3, gI_4, gI_5, gI_6, gI_7, gI_8, gI_9, gI_10, gI_11, gI_12, gI_13, gI_14, gI_15, gL_0, gL_1, gL_2, gL_3, gL_4, gL_5, gL_6, gL_7, gL_8, gL_9, gL_10, gL_11, gL_12, gL_13, gL_14, gL_15, gA_0, gA_1, gA_2, gA_3, gA_4, gA_5, gA_6, gA_7, gA_8, gA_9, gA_10, gA_11, gA_12, gA_13, gA_14, gA_15, p1_0, p1_1, p1_2, p1_3, p1_4, p1_5, p1_6, p1_7, p1_8, p1_9, p1_10, p1_11, p1_12, p1_13, p1_14, p1_15, p2_0, p2_1, p2_2, p2_3, p2_4, p2_5, p2_6, p2_7, p2_8, p2_9, p2_10, p2_11, p2_12, p2_13, p2_14, p2_15, b01_ok, b_ft, b_tf, b01_e0, b01_e1, lgc_0, not_true_eq_false, not_false_eq_true, K, V, F, Bool.true_eq_false, Bool.false_eq_true, zm1, zm2, zm4, zm6, z10, v_whyNot, v_ref1 X, v_ref2 X, v_ref4 X, v_ref6 X, Bool.or_false, Bool.false_or, Bool.or_true, Bool.true_or, Bool.not_true, Bool.not_false, h0n, h0, h1n, h1, s237_0, s237_1, s237_4, s237_5, s237_6, s237_9, s237_10, s237_12, s237_15, s237_16, s237_17, s237_20, s237_21, s237_24, s237_27, s237_30, s237_31, s237_32, s237_33, s237_36, s237_37, s237_40, z10]
          refine v_longestStill X.2.1 g (by omega) fun h1 m1 => ?_
          simp only [s237_43, s237_46, s237_47, s237_50, s237_53, s237_56, oB_some, cl2_i, cl2_r, cl2_l, cl2_u, cl2_s, wd_0, wd_i, wd_r, wd_l, wd_f, ct_i, ct_r, ct_n, ct_f, rf_s, rf_n, tl_s, tl_n, true_and, and_true, eq_self, and_self, Nat.reduceAdd, Nat.reduceLeDiff, Nat.zero_le, Nat.reduceEqDiff, or_true, true_or, false_or, or_false, if_true, if_false, gI_0, gI_1, gI_2, gI_3, gI_4, gI_5, gI_6, gI_7, gI_8, gI_9, gI_10, gI_11, gI_12, gI_13, gI_14, gI_15, gL_0, gL_1, gL_2, gL_3, gL_4, gL_5, gL_6, gL_7, gL_8, gL_9, gL_10, gL_11, gL_12, gL_13, gL_14, gL_15, gA_0, gA_1, gA_2, gA_3, gA_4, gA_5, gA_6, gA_7, gA_8, gA_9, gA_10, gA_11, gA_12, gA_13, gA_14, gA_15, p1_0, p1_1, p1_2, p1_3, p1_4, p1_5, p1_6, p1_7, p1_8, p1_9, p1_10, p1_11, p1_12, p1_13, p1_14, p1_15, p2_0, p2_1, p2_2, p2_3, p2_4, p2_5, p2_6, p2_7, p2_8, p2_9, p2_10, p2_11, p2_12, p2_13, p2_14, p2_15, b01_ok, b_ft, b_tf, b01_e0, b01_e1, lgc_0, not_true_eq_false, not_false_eq_true]
          exact kk h1 (m1.wide (Nat.le_refl _) (by omega))
        · rw [if_neg e2] at kk
          simp only [e237, s237_0, s237_1, s237_4, s237_5, s237_6, s237_9, s237_10, s237_12, s237_15, s237_16, s237_17, s237_20, s237_21, s237_24, s237_27, s237_30, s237_31, s237_32, s237_33, s237_36, s237_37, s237_40, s237_43, s237_46, s237_47, s237_50, s237_53, s237_56, oB_some, cl2_i, cl2_r, cl2_l, cl2_u, cl2_s, wd_0, wd_i, wd_r, wd_l, wd_f, ct_i, ct_r, ct_n, ct_f, rf_s, rf_n, tl_s, tl_n, true_and, and_true, eq_self, and_self, Nat.reduceAdd, Nat.reduceLeDiff, Nat.zero_le, Nat.reduceEqDiff, or_true, true_or, false_or, or_false, if_true, if_false, gI_0, gI_1, gI_2, gI_3, gI_4, gI_5, gI_6, gI_7, gI_8, gI_9, gI_10, gI_11, gI_12, gI_13, gI_14, gI_15, gL_0, gL_1, gL_2, gL_3, gL_4, gL_5, gL_6, gL_7, gL_8, gL_9, gL_10, gL_11, gL_12, gL_13, gL_14, gL_15, gA_0, gA_1, gA_2, gA_3, gA_4, gA_5, gA_6, gA_7, gA_8, gA_9, gA_10, gA_11, gA_12, gA_13, gA_14, gA_15, p1_0, p1_1, p1_2, p1_3, p1_4, p1_5, p1_6, p1_7, p1_8, p1_9, p1_10, p1_11, p1_12, p1_13, p1_14, p1_15, p2_0, p2_1, p2_2, p2_3, p2_4, p2_5, p2_6, p2_7, p2_8, p2_9, p2_10, p2_11, p2_12, p2_13, p2_14, p2_15, b01_ok, b_ft, b_tf, b01_e0, b01_e1, lgc_0, not_true_eq_false, not_false_eq_true, K, V, F, Bool.true_eq_false, Bool.false_eq_true, zm1, zm2, zm4, zm6, z10, v_whyNot, v_ref1 X, v_ref2 X, v_ref4 X, v_ref6 X, Bool.or_false, Bool.false_or, Bool.or_true, Bool.true_or, Bool.not_true, Bool.not_false, h0n, h0, h1n, h1, e1, e2, v_busiest X.v g]
          exact kk h Fm.rf
set_option maxHeartbeats 8000000 in
theorem x_lamp {d : Nat} {Q : PQ} {h : HP} {x : Nat} {p : Int32} {S : VS} (X : XQ h x S) (g : Good S) (hy : vy S ≤ 999)
    (kr : ∀ y, why (!inBg S p) false false false = y → ¬ y = 0 → Q (some (.int y)) (RfC h x y))
    (k : why (!inBg S p) false false false = 0 → ∀ h', Fm (x + 20) 14 h h' → Q (some (.int (p / 3 + 1))) h') : Ev (d + 4) 235 [.ref x, .int p] h Q := by
  have K := X.1
  unfold XK at K
  have V := X.v.k
  unfold VK at V
  have F := X.2.1.1
  have gn := g.n
  have gl := g.l
  cases hp : inBg S p with
  | false =>
    simp only [e235, s235_0, s235_1, s235_2, s235_5, s235_8, s235_9, s235_10, s235_11, s235_12, s235_13, s235_16, s235_17, s235_18, s235_21, oB_some, cl2_i, cl2_r, cl2_l, cl2_u, cl2_s, wd_0, wd_i, wd_r, wd_l, wd_f, ct_i, ct_r, ct_n, ct_f, rf_s, rf_n, tl_s, tl_n, true_and, and_true, eq_self, and_self, Nat.reduceAdd, Nat.reduceLeDiff, Nat.zero_le, Nat.reduceEqDiff, or_true, true_or, false_or, or_false, if_true, if_false, gI_0, gI_1, gI_2, gI_3, gI_4, gI_5, gI_6, gI_7, gI_8, gI_9, gI_10, gI_11, gI_12, gI_13, gI_14, gI_15, gL_0, gL_1, gL_2, gL_3, gL_4, gL_5, gL_6, gL_7, gL_8, gL_9, gL_10, gL_11, gL_12, gL_13, gL_14, gL_15, gA_0, gA_1, gA_2, gA_3, gA_4, gA_5, gA_6, gA_7, gA_8, gA_9, gA_10, gA_11, gA_12, gA_13, gA_14, gA_15, p1_0, p1_1, p1_2, p1_3, p1_4, p1_5, p1_6, p1_7, p1_8, p1_9, p1_10, p1_11, p1_12, p1_13, p1_14, p1_15, p2_0, p2_1, p2_2, p2_3, p2_4, p2_5, p2_6, p2_7, p2_8, p2_9, p2_10, p2_11, p2_12, p2_13, p2_14, p2_15, b01_ok, b_ft, b_tf, b01_e0, b01_e1, lgc_0, not_true_eq_false, not_false_eq_true, K, V, F, Bool.true_eq_false, Bool.false_eq_true, zm1, zm2, zm4, zm6, z10, v_whyNot, v_ref1 X, v_ref2 X, v_ref4 X, v_ref6 X, Bool.or_false, Bool.false_or, Bool.or_true, Bool.true_or, Bool.not_true, Bool.not_false, v_isInBag X, hp, ite_self]
    exact kr (-1) (by simp [why, hp]) (by decide)
  | true =>
    have kk := k (by simp [why, hp])
    simp only [e235, s235_0, s235_1, s235_2, s235_5, s235_8, s235_9, s235_10, s235_11, s235_12, s235_13, s235_16, s235_17, s235_18, s235_21, oB_some, cl2_i, cl2_r, cl2_l, cl2_u, cl2_s, wd_0, wd_i, wd_r, wd_l, wd_f, ct_i, ct_r, ct_n, ct_f, rf_s, rf_n, tl_s, tl_n, true_and, and_true, eq_self, and_self, Nat.reduceAdd, Nat.reduceLeDiff, Nat.zero_le, Nat.reduceEqDiff, or_true, true_or, false_or, or_false, if_true, if_false, gI_0, gI_1, gI_2, gI_3, gI_4, gI_5, gI_6, gI_7, gI_8, gI_9, gI_10, gI_11, gI_12, gI_13, gI_14, gI_15, gL_0, gL_1, gL_2, gL_3, gL_4, gL_5, gL_6, gL_7, gL_8, gL_9, gL_10, gL_11, gL_12, gL_13, gL_14, gL_15, gA_0, gA_1, gA_2, gA_3, gA_4, gA_5, gA_6, gA_7, gA_8, gA_9, gA_10, gA_11, gA_12, gA_13, gA_14, gA_15, p1_0, p1_1, p1_2, p1_3, p1_4, p1_5, p1_6, p1_7, p1_8, p1_9, p1_10, p1_11, p1_12, p1_13, p1_14, p1_15, p2_0, p2_1, p2_2, p2_3, p2_4, p2_5, p2_6, p2_7, p2_8, p2_9, p2_10, p2_11, p2_12, p2_13, p2_14, p2_15, b01_ok, b_ft, b_tf, b01_e0, b01_e1, lgc_0, not_true_eq_false, not_false_eq_true, K, V, F, Bool.true_eq_false, Bool.false_eq_true, zm1, zm2, zm4, zm6, z10, v_whyNot, v_ref1 X, v_ref2 X, v_ref4 X, v_ref6 X, Bool.or_false, Bool.false_or, Bool.or_true, Bool.true_or, Bool.not_true, Bool.not_false, v_isInBag X, hp, n3_0]
    exact kk h Fm.rf
set_option maxHeartbeats 8000000 in
theorem x_kinds {d : Nat} {Q : PQ} {h : HP} {x : Nat} {c : Int32} {S : VS} (X : XQ h x S) (g : Good S) (hy : vy S ≤ 999)
    (kr : ∀ y, why false false false (decide (c < 0) || decide (7 < c)) = y → ¬ y = 0 → Q (some (.int y)) (RfC h x y))
    (k : why false false false (decide (c < 0) || decide (7 < c)) = 0 → ∀ h', Fm (x + 20) 14 h h' → Q (some (.int (aKinds S c))) h') : Ev (d + 4) 248 [.ref x, .int c] h Q := by
  have K := X.1
  unfold XK at K
  have V := X.v.k
  unfold VK at V
  have F := X.2.1.1
  have gn := g.n
  have gl := g.l
  by_cases h0 : c < 0
  · have h0n := Int32.not_le.mpr h0
    simp only [e248, s248_0, s248_1, s248_4, s248_7, s248_8, s248_11, s248_12, s248_15, s248_18, s248_19, s248_21, s248_24, oB_some, cl2_i, cl2_r, cl2_l, cl2_u, cl2_s, wd_0, wd_i, wd_r, wd_l, wd_f, ct_i, ct_r, ct_n, ct_f, rf_s, rf_n, tl_s, tl_n, true_and, and_true, eq_self, and_self, Nat.reduceAdd, Nat.reduceLeDiff, Nat.zero_le, Nat.reduceEqDiff, or_true, true_or, false_or, or_false, if_true, if_false, gI_0, gI_1, gI_2, gI_3, gI_4, gI_5, gI_6, gI_7, gI_8, gI_9, gI_10, gI_11, gI_12, gI_13, gI_14, gI_15, gL_0, gL_1, gL_2, gL_3, gL_4, gL_5, gL_6, gL_7, gL_8, gL_9, gL_10, gL_11, gL_12, gL_13, gL_14, gL_15, gA_0, gA_1, gA_2, gA_3, gA_4, gA_5, gA_6, gA_7, gA_8, gA_9, gA_10, gA_11, gA_12, gA_13, gA_14, gA_15, p1_0, p1_1, p1_2, p1_3, p1_4, p1_5, p1_6, p1_7, p1_8, p1_9, p1_10, p1_11, p1_12, p1_13, p1_14, p1_15, p2_0, p2_1, p2_2, p2_3, p2_4, p2_5, p2_6, p2_7, p2_8, p2_9, p2_10, p2_11, p2_12, p2_13, p2_14, p2_15, b01_ok, b_ft, b_tf, b01_e0, b01_e1, lgc_0, not_true_eq_false, not_false_eq_true, K, V, F, Bool.true_eq_false, Bool.false_eq_true, zm1, zm2, zm4, zm6, z10, v_whyNot, v_ref1 X, v_ref2 X, v_ref4 X, v_ref6 X, Bool.or_false, Bool.false_or, Bool.or_true, Bool.true_or, Bool.not_true, Bool.not_false, v_isOne, decide_true, decide_false, h0, h0n, ite_self]
    exact kr (-2) (by simp [why, h0, h0n]) (by decide)
  · have h0n := Int32.not_lt.mp h0
    by_cases h1 : 7 < c
    · have h1n := Int32.not_le.mpr h1
      simp only [e248, s248_0, s248_1, s248_4, s248_7, s248_8, s248_11, s248_12, s248_15, s248_18, s248_19, s248_21, s248_24, oB_some, cl2_i, cl2_r, cl2_l, cl2_u, cl2_s, wd_0, wd_i, wd_r, wd_l, wd_f, ct_i, ct_r, ct_n, ct_f, rf_s, rf_n, tl_s, tl_n, true_and, and_true, eq_self, and_self, Nat.reduceAdd, Nat.reduceLeDiff, Nat.zero_le, Nat.reduceEqDiff, or_true, true_or, false_or, or_false, if_true, if_false, gI_0, gI_1, gI_2, gI_3, gI_4, gI_5, gI_6, gI_7, gI_8, gI_9, gI_10, gI_11, gI_12, gI_13, gI_14, gI_15, gL_0, gL_1, gL_2, gL_3, gL_4, gL_5, gL_6, gL_7, gL_8, gL_9, gL_10, gL_11, gL_12, gL_13, gL_14, gL_15, gA_0, gA_1, gA_2, gA_3, gA_4, gA_5, gA_6, gA_7, gA_8, gA_9, gA_10, gA_11, gA_12, gA_13, gA_14, gA_15, p1_0, p1_1, p1_2, p1_3, p1_4, p1_5, p1_6, p1_7, p1_8, p1_9, p1_10, p1_11, p1_12, p1_13, p1_14, p1_15, p2_0, p2_1, p2_2, p2_3, p2_4, p2_5, p2_6, p2_7, p2_8, p2_9, p2_10, p2_11, p2_12, p2_13, p2_14, p2_15, b01_ok, b_ft, b_tf, b01_e0, b01_e1, lgc_0, not_true_eq_false, not_false_eq_true, K, V, F, Bool.true_eq_false, Bool.false_eq_true, zm1, zm2, zm4, zm6, z10, v_whyNot, v_ref1 X, v_ref2 X, v_ref4 X, v_ref6 X, Bool.or_false, Bool.false_or, Bool.or_true, Bool.true_or, Bool.not_true, Bool.not_false, v_isOne, decide_true, decide_false, h0n, h0, h1, h1n, ite_self]
      exact kr (-2) (by simp [why, h0n, h0, h1, h1n]) (by decide)
    · have h1n := Int32.not_lt.mp h1
      have kk := k (by simp [why, h0n, h0, h1n, h1])
      obtain ⟨j, hj, rfl⟩ := arg_of (n := 7) (M := 7) rfl (by decide) h0 h1
      unfold aKinds at kk
      rw [tc_n (show j < 2 ^ 31 by omega)] at kk
      simp only [e248, s248_0, s248_1, s248_4, s248_7, s248_8, s248_11, s248_12, s248_15, s248_18, s248_19, s248_21, s248_24, oB_some, cl2_i, cl2_r, cl2_l, cl2_u, cl2_s, wd_0, wd_i, wd_r, wd_l, wd_f, ct_i, ct_r, ct_n, ct_f, rf_s, rf_n, tl_s, tl_n, true_and, and_true, eq_self, and_self, Nat.reduceAdd, Nat.reduceLeDiff, Nat.zero_le, Nat.reduceEqDiff, or_true, true_or, false_or, or_false, if_true, if_false, gI_0, gI_1, gI_2, gI_3, gI_4, gI_5, gI_6, gI_7, gI_8, gI_9, gI_10, gI_11, gI_12, gI_13, gI_14, gI_15, gL_0, gL_1, gL_2, gL_3, gL_4, gL_5, gL_6, gL_7, gL_8, gL_9, gL_10, gL_11, gL_12, gL_13, gL_14, gL_15, gA_0, gA_1, gA_2, gA_3, gA_4, gA_5, gA_6, gA_7, gA_8, gA_9, gA_10, gA_11, gA_12, gA_13, gA_14, gA_15, p1_0, p1_1, p1_2, p1_3, p1_4, p1_5, p1_6, p1_7, p1_8, p1_9, p1_10, p1_11, p1_12, p1_13, p1_14, p1_15, p2_0, p2_1, p2_2, p2_3, p2_4, p2_5, p2_6, p2_7, p2_8, p2_9, p2_10, p2_11, p2_12, p2_13, p2_14, p2_15, b01_ok, b_ft, b_tf, b01_e0, b01_e1, lgc_0, not_true_eq_false, not_false_eq_true, K, V, F, Bool.true_eq_false, Bool.false_eq_true, zm1, zm2, zm4, zm6, z10, v_whyNot, v_ref1 X, v_ref2 X, v_ref4 X, v_ref6 X, Bool.or_false, Bool.false_or, Bool.or_true, Bool.true_or, Bool.not_true, Bool.not_false, v_isOne, decide_true, decide_false, h0n, h0, h1n, h1, v_howManyOf X.v g (show j < 2 ^ 31 by omega)]
      exact kk h Fm.rf
set_option maxHeartbeats 8000000 in
theorem x_share {d : Nat} {Q : PQ} {h : HP} {x : Nat} {w : Int32} {S : VS} (X : XQ h x S) (g : Good S) (hy : vy S ≤ 999)
    (kr : ∀ y, why false false false (!chB w) = y → ¬ y = 0 → Q (some (.long (4000000000000000000 - y.toInt64))) (RfC h x y))
    (k : why false false false (!chB w) = 0 → ∀ h', Fm (x + 20) 14 h h' → Q (some (.long (aShare S w))) h') : Ev (d + 4) 233 [.ref x, .int w] h Q := by
  have K := X.1
  unfold XK at K
  have V := X.v.k
  unfold VK at V
  have F := X.2.1.1
  have gn := g.n
  have gl := g.l
  cases hw : chB w with
  | false =>
    simp only [e233, s233_0, s233_1, s233_4, s233_7, s233_10, s233_11, s233_13, s233_16, s233_17, s233_18, s233_19, s233_20, s233_23, s233_26, s233_29, s233_30, s233_31, s233_34, s233_37, s233_38, s233_41, s233_44, s233_45, s233_48, s233_49, s233_50, s233_51, s233_52, s233_53, s233_54, s233_57, oB_some, cl2_i, cl2_r, cl2_l, cl2_u, cl2_s, wd_0, wd_i, wd_r, wd_l, wd_f, ct_i, ct_r, ct_n, ct_f, rf_s, rf_n, tl_s, tl_n, true_and, and_true, eq_self, and_self, Nat.reduceAdd, Nat.reduceLeDiff, Nat.zero_le, Nat.reduceEqDiff, or_true, true_or, false_or, or_false, if_true, if_false, gI_0, gI_1, gI_2, gI_3, gI_4, gI_5, gI_6, gI_7, gI_8, gI_9, gI_10, gI_11, gI_12, gI_13, gI_14, gI_15, gL_0, gL_1, gL_2, gL_3, gL_4, gL_5, gL_6, gL_7, gL_8, gL_9, gL_10, gL_11, gL_12, gL_13, gL_14, gL_15, gA_0, gA_1, gA_2, gA_3, gA_4, gA_5, gA_6, gA_7, gA_8, gA_9, gA_10, gA_11, gA_12, gA_13, gA_14, gA_15, p1_0, p1_1, p1_2, p1_3, p1_4, p1_5, p1_6, p1_7, p1_8, p1_9, p1_10, p1_11, p1_12, p1_13, p1_14, p1_15, p2_0, p2_1, p2_2, p2_3, p2_4, p2_5, p2_6, p2_7, p2_8, p2_9, p2_10, p2_11, p2_12, p2_13, p2_14, p2_15, b01_ok, b_ft, b_tf, b01_e0, b01_e1, lgc_0, not_true_eq_false, not_false_eq_true, K, V, F, Bool.true_eq_false, Bool.false_eq_true, zm1, zm2, zm4, zm6, z10, v_whyNot, v_ref1 X, v_ref2 X, v_ref4 X, v_ref6 X, Bool.or_false, Bool.false_or, Bool.or_true, Bool.true_or, Bool.not_true, Bool.not_false, v_isChoice, hw, ite_self]
    exact kr (-2) (by simp [why, hw]) (by decide)
  | true =>
    have kk := k (by simp [why, hw])
    have sa : sm (anyW S) := by
      unfold anyW
      have : ∀ n, n ≤ vn S → sm (orN (vw S) n) := fun n => by
        induction n with
        | zero => intro _; exact sm_0
        | succ n ih => intro hn; exact sm_or (ih (by omega)) (g.at (by omega)).2.2.2.1
      exact this _ (Nat.le_refl _)
    have n1 := nb_le (vs S)
    have n2 := nb_le (vs S ||| anyW S)
    unfold aShare at kk
    simp only [e233, s233_0, s233_1, s233_4, s233_7, s233_10, s233_11, s233_13, s233_16, s233_17, s233_18, s233_19, s233_20, s233_23, s233_26, s233_29, s233_30, s233_31, s233_34, s233_37, s233_38, s233_41, s233_44, s233_45, s233_48, s233_49, s233_50, s233_51, s233_52, s233_53, s233_54, s233_57, oB_some, cl2_i, cl2_r, cl2_l, cl2_u, cl2_s, wd_0, wd_i, wd_r, wd_l, wd_f, ct_i, ct_r, ct_n, ct_f, rf_s, rf_n, tl_s, tl_n, true_and, and_true, eq_self, and_self, Nat.reduceAdd, Nat.reduceLeDiff, Nat.zero_le, Nat.reduceEqDiff, or_true, true_or, false_or, or_false, if_true, if_false, gI_0, gI_1, gI_2, gI_3, gI_4, gI_5, gI_6, gI_7, gI_8, gI_9, gI_10, gI_11, gI_12, gI_13, gI_14, gI_15, gL_0, gL_1, gL_2, gL_3, gL_4, gL_5, gL_6, gL_7, gL_8, gL_9, gL_10, gL_11, gL_12, gL_13, gL_14, gL_15, gA_0, gA_1, gA_2, gA_3, gA_4, gA_5, gA_6, gA_7, gA_8, gA_9, gA_10, gA_11, gA_12, gA_13, gA_14, gA_15, p1_0, p1_1, p1_2, p1_3, p1_4, p1_5, p1_6, p1_7, p1_8, p1_9, p1_10, p1_11, p1_12, p1_13, p1_14, p1_15, p2_0, p2_1, p2_2, p2_3, p2_4, p2_5, p2_6, p2_7, p2_8, p2_9, p2_10, p2_11, p2_12, p2_13, p2_14, p2_15, b01_ok, b_ft, b_tf, b01_e0, b01_e1, lgc_0, not_true_eq_false, not_false_eq_true, K, V, F, Bool.true_eq_false, Bool.false_eq_true, zm1, zm2, zm4, zm6, z10, v_whyNot, v_ref1 X, v_ref2 X, v_ref4 X, v_ref6 X, Bool.or_false, Bool.false_or, Bool.or_true, Bool.true_or, Bool.not_true, Bool.not_false, v_isChoice, hw, X.v.s, v_bitCount g.s, v_knownByAny X.v g, v_bitCount (sm_or g.s sa), nI_l (show nb (vs S) < 2 ^ 31 by omega), nI_l (show nb (vs S ||| anyW S) < 2 ^ 31 by omega), v_partOf (show nb (vs S) < 2 ^ 40 by omega) (show nb (vs S ||| anyW S) < 2 ^ 40 by omega)]
    exact kk h Fm.rf
