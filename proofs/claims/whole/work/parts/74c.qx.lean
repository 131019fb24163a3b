-- written by gen73.py: the one side's questions
theorem rareA_lt {S : VS} {c : Nat} (h : (rareA S 40 (none, 7)).1 = some c) : c < 40 := by
  have : ∀ (n : Nat) (b : Option Nat × Nat), n ≤ 40 → (∀ a, b.1 = some a → a < 40) → ∀ a, (rareA S n b).1 = some a → a < 40 := fun n => by
    induction n with
    | zero => intro b _ hb a ha; exact hb a ha
    | succ n ih =>
      intro b hn hb a ha
      rw [rareA] at ha
      refine ih _ (by omega) (fun a2 h2 => ?_) a ha
      split at h2
      · cases h2; omega
      · exact hb a2 h2
  exact this 40 _ (Nat.le_refl _) (fun a ha => by cases ha) c h
set_option maxHeartbeats 8000000 in
theorem x_reach {d : Nat} {Q : PQ} {h : HP} {x : Nat} {p w : Int32} {S : VS} (X : XQ h x S) (g : Good S) (hy : vy S ≤ 999)
    (kr : ∀ y, why (!isPI S p) false false (!chB w) = y → ¬ y = 0 → Q (some (.int y)) (RfC h x y))
    (k : why (!isPI S p) false false (!chB w) = 0 → ∀ h', Fm (x + 20) 14 h h' → Q (some (.int (aReach S p w))) h') : Ev (d + 4) 216 [.ref x, .int p, .int w] h Q := by
  have K := X.1
  unfold XK at K
  have V := X.v.k
  unfold VK at V
  have F := X.2.1.1
  have gn := g.n
  have gl := g.l
  cases hp : isPI S p with
  | false =>
    simp only [e216, s216_0, s216_1, s216_2, s216_5, s216_8, s216_9, s216_12, s216_13, s216_14, s216_15, s216_16, s216_19, s216_22, s216_23, s216_26, s216_27, s216_30, s216_31, s216_32, s216_35, s216_36, s216_37, s216_40, s216_41, s216_42, s216_45, s216_46, s216_49, s216_50, s216_53, s216_56, s216_57, s216_60, s216_61, s216_64, oB_some, cl2_i, cl2_r, cl2_l, cl2_u, cl2_s, wd_0, wd_i, wd_r, wd_l, wd_f, ct_i, ct_r, ct_n, ct_f, rf_s, rf_n, tl_s, tl_n, true_and, and_true, eq_self, and_self, Nat.reduceAdd, Nat.reduceLeDiff, Nat.zero_le, Nat.reduceEqDiff, or_true, true_or, false_or, or_false, if_true, if_false, gI_0, gI_1, gI_2, gI_3, gI_4, gI_5, gI_6, gI_7, gI_8, gI_9, gI_10, gI_11, gI_12, gI_13, gI_14, gI_15, gL_0, gL_1, gL_2, gL_3, gL_4, gL_5, gL_6, gL_7, gL_8, gL_9, gL_10, gL_11, gL_12, gL_13, gL_14, gL_15, gA_0, gA_1, gA_2, gA_3, gA_4, gA_5, gA_6, gA_7, gA_8, gA_9, gA_10, gA_11, gA_12, gA_13, gA_14, gA_15, p1_0, p1_1, p1_2, p1_3, p1_4, p1_5, p1_6, p1_7, p1_8, p1_9, p1_10, p1_11, p1_12, p1_13, p1_14, p1_15, p2_0, p2_1, p2_2, p2_3, p2_4, p2_5, p2_6, p2_7, p2_8, p2_9, p2_10, p2_11, p2_12, p2_13, p2_14, p2_15, b01_ok, b_ft, b_tf, b01_e0, b01_e1, lgc_0, not_true_eq_false, not_false_eq_true, K, V, F, Bool.true_eq_false, Bool.false_eq_true, zm1, zm2, zm4, zm6, z10, v_whyNot, v_ref1 X, v_ref2 X, v_ref4 X, v_ref6 X, Bool.or_false, Bool.false_or, Bool.or_true, Bool.true_or, Bool.not_true, Bool.not_false, v_isThere X, v_isChoice, hp, ite_self]
    exact kr (-1) (by simp [why, hp]) (by decide)
  | true =>
    cases hw : chB w with
    | false =>
      simp only [e216, s216_0, s216_1, s216_2, s216_5, s216_8, s216_9, s216_12, s216_13, s216_14, s216_15, s216_16, s216_19, s216_22, s216_23, s216_26, s216_27, s216_30, s216_31, s216_32, s216_35, s216_36, s216_37, s216_40, s216_41, s216_42, s216_45, s216_46, s216_49, s216_50, s216_53, s216_56, s216_57, s216_60, s216_61, s216_64, oB_some, cl2_i, cl2_r, cl2_l, cl2_u, cl2_s, wd_0, wd_i, wd_r, wd_l, wd_f, ct_i, ct_r, ct_n, ct_f, rf_s, rf_n, tl_s, tl_n, true_and, and_true, eq_self, and_self, Nat.reduceAdd, Nat.reduceLeDiff, Nat.zero_le, Nat.reduceEqDiff, or_true, true_or, false_or, or_false, if_true, if_false, gI_0, gI_1, gI_2, gI_3, gI_4, gI_5, gI_6, gI_7, gI_8, gI_9, gI_10, gI_11, gI_12, gI_13, gI_14, gI_15, gL_0, gL_1, gL_2, gL_3, gL_4, gL_5, gL_6, gL_7, gL_8, gL_9, gL_10, gL_11, gL_12, gL_13, gL_14, gL_15, gA_0, gA_1, gA_2, gA_3, gA_4, gA_5, gA_6, gA_7, gA_8, gA_9, gA_10, gA_11, gA_12, gA_13, gA_14, gA_15, p1_0, p1_1, p1_2, p1_3, p1_4, p1_5, p1_6, p1_7, p1_8, p1_9, p1_10, p1_11, p1_12, p1_13, p1_14, p1_15, p2_0, p2_1, p2_2, p2_3, p2_4, p2_5, p2_6, p2_7, p2_8, p2_9, p2_10, p2_11, p2_12, p2_13, p2_14, p2_15, b01_ok, b_ft, b_tf, b01_e0, b01_e1, lgc_0, not_true_eq_false, not_false_eq_true, K, V, F, Bool.true_eq_false, Bool.false_eq_true, zm1, zm2, zm4, zm6, z10, v_whyNot, v_ref1 X, v_ref2 X, v_ref4 X, v_ref6 X, Bool.or_false, Bool.false_or, Bool.or_true, Bool.true_or, Bool.not_true, Bool.not_false, v_isThere X, v_isChoice, hp, hw, ite_self]
      exact kr (-2) (by simp [why, hp, hw]) (by decide)
    | true =>
      have kk := k (by simp [why, hp, hw])
      obtain ⟨i, hi, rfl⟩ := isPI_of g hp
      unfold aReach at kk
      rw [tc_n (show i < 2 ^ 31 by omega)] at kk
      simp only [e216, s216_0, s216_1, s216_2, s216_5, s216_8, s216_9, s216_12, s216_13, s216_14, s216_15, s216_16, s216_19, s216_22, s216_23, s216_26, s216_27, s216_30, s216_31, s216_32, s216_35, s216_36, s216_37, s216_40, s216_41, s216_42, s216_45, s216_46, s216_49, s216_50, s216_53, s216_56, s216_57, s216_60, s216_61, s216_64, oB_some, cl2_i, cl2_r, cl2_l, cl2_u, cl2_s, wd_0, wd_i, wd_r, wd_l, wd_f, ct_i, ct_r, ct_n, ct_f, rf_s, rf_n, tl_s, tl_n, true_and, and_true, eq_self, and_self, Nat.reduceAdd, Nat.reduceLeDiff, Nat.zero_le, Nat.reduceEqDiff, or_true, true_or, false_or, or_false, if_true, if_false, gI_0, gI_1, gI_2, gI_3, gI_4, gI_5, gI_6, gI_7, gI_8, gI_9, gI_10, gI_11, gI_12, gI_13, gI_14, gI_15, gL_0, gL_1, gL_2, gL_3, gL_4, gL_5, gL_6, gL_7, gL_8, gL_9, gL_10, gL_11, gL_12, gL_13, gL_14, gL_15, gA_0, gA_1, gA_2, gA_3, gA_4, gA_5, gA_6, gA_7, gA_8, gA_9, gA_10, gA_11, gA_12, gA_13, gA_14, gA_15, p1_0, p1_1, p1_2, p1_3, p1_4, p1_5, p1_6, p1_7, p1_8, p1_9, p1_10, p1_11, p1_12, p1_13, p1_14, p1_15, p2_0, p2_1, p2_2, p2_3, p2_4, p2_5, p2_6, p2_7, p2_8, p2_9, p2_10, p2_11, p2_12, p2_13, p2_14, p2_15, b01_ok, b_ft, b_tf, b01_e0, b01_e1, lgc_0, not_true_eq_false, not_false_eq_true, K, V, F, Bool.true_eq_false, Bool.false_eq_true, zm1, zm2, zm4, zm6, z10, v_whyNot, v_ref1 X, v_ref2 X, v_ref4 X, v_ref6 X, Bool.or_false, Bool.false_or, Bool.or_true, Bool.true_or, Bool.not_true, Bool.not_false, v_isThere X, v_isChoice, hp, hw, v_reachedFrom X.v g hi, v_ringFrom X.v g hi]
      by_cases e : w = 0
      · rw [if_neg (not_not_intro e)]
        rw [if_pos e] at kk
        exact kk h Fm.rf
      · rw [if_pos e]
        rw [if_neg e] at kk
        exact kk h Fm.rf
set_option maxHeartbeats 8000000 in
theorem x_common {d : Nat} {Q : PQ} {h : HP} {x : Nat} {a b w : Int32} {S : VS} (X : XQ h x S) (g : Good S) (hy : vy S ≤ 999)
    (kr : ∀ y, why (!arTwo S a b) false false (decide (w < 0) || decide (2 < w)) = y → ¬ y = 0 → Q (some (.int y)) (RfC h x y))
    (k : why (!arTwo S a b) false false (decide (w < 0) || decide (2 < w)) = 0 → ∀ h', Fm (x + 20) 14 h h' → Q (some (.int (aCommon S a b w))) h') : Ev (d + 4) 223 [.ref x, .int a, .int b, .int w] h Q := by
  have K := X.1
  unfold XK at K
  have V := X.v.k
  unfold VK at V
  have F := X.2.1.1
  have gn := g.n
  have gl := g.l
  cases hp : arTwo S a b with
  | false =>
    simp only [e223, s223_0, s223_1, s223_2, s223_3, s223_6, s223_9, s223_10, s223_13, s223_14, s223_15, s223_16, s223_17, s223_20, s223_21, s223_22, s223_25, s223_26, s223_29, s223_30, s223_33, s223_35, s223_37, s223_40, s223_41, s223_43, s223_46, s223_47, s223_48, s223_51, s223_52, s223_55, s223_57, s223_58, s223_61, s223_62, s223_65, s223_67, s223_68, s223_71, s223_73, s223_75, s223_76, s223_79, s223_80, s223_81, s223_82, s223_85, s223_87, s223_89, s223_90, s223_93, s223_95, s223_97, s223_100, s223_101, s223_102, s223_105, oB_some, cl2_i, cl2_r, cl2_l, cl2_u, cl2_s, wd_0, wd_i, wd_r, wd_l, wd_f, ct_i, ct_r, ct_n, ct_f, rf_s, rf_n, tl_s, tl_n, true_and, and_true, eq_self, and_self, Nat.reduceAdd, Nat.reduceLeDiff, Nat.zero_le, Nat.reduceEqDiff, or_true, true_or, false_or, or_false, if_true, if_false, gI_0, gI_1, gI_2, gI_3, gI_4, gI_5, gI_6, gI_7, gI_8, gI_9, gI_10, gI_11, gI_12, gI_13, gI_14, gI_15, gL_0, gL_1, gL_2, gL_3, gL_4, gL_5, gL_6, gL_7, gL_8, gL_9, gL_10, gL_11, gL_12, gL_13, gL_14, gL_15, gA_0, gA_1, gA_2, gA_3, gA_4, gA_5, gA_6, gA_7, gA_8, gA_9, gA_10, gA_11, gA_12, gA_13, gA_14, gA_15, p1_0, p1_1, p1_2, p1_3, p1_4, p1_5, p1_6, p1_7, p1_8, p1_9, p1_10, p1_11, p1_12, p1_13, p1_14, p1_15, p2_0, p2_1, p2_2, p2_3, p2_4, p2_5, p2_6, p2_7, p2_8, p2_9, p2_10, p2_11, p2_12, p2_13, p2_14, p2_15, b01_ok, b_ft, b_tf, b01_e0, b01_e1, lgc_0, not_true_eq_false, not_false_eq_true, K, V, F, Bool.true_eq_false, Bool.false_eq_true, zm1, zm2, zm4, zm6, z10, v_whyNot, v_ref1 X, v_ref2 X, v_ref4 X, v_ref6 X, Bool.or_false, Bool.false_or, Bool.or_true, Bool.true_or, Bool.not_true, Bool.not_false, v_areTwo X, hp, ite_self]
    exact kr (-1) (by simp [why, hp]) (by decide)
  | true =>
    by_cases h0 : w < 0
    · have h0n := Int32.not_le.mpr h0
      simp only [e223, s223_0, s223_1, s223_2, s223_3, s223_6, s223_9, s223_10, s223_13, s223_14, s223_15, s223_16, s223_17, s223_20, s223_21, s223_22, s223_25, s223_26, s223_29, s223_30, s223_33, s223_35, s223_37, s223_40, s223_41, s223_43, s223_46, s223_47, s223_48, s223_51, s223_52, s223_55, s223_57, s223_58, s223_61, s223_62, s223_65, s223_67, s223_68, s223_71, s223_73, s223_75, s223_76, s223_79, s223_80, s223_81, s223_82, s223_85, s223_87, s223_89, s223_90, s223_93, s223_95, s223_97, s223_100, s223_101, s223_102, s223_105, oB_some, cl2_i, cl2_r, cl2_l, cl2_u, cl2_s, wd_0, wd_i, wd_r, wd_l, wd_f, ct_i, ct_r, ct_n, ct_f, rf_s, rf_n, tl_s, tl_n, true_and, and_true, eq_self, and_self, Nat.reduceAdd, Nat.reduceLeDiff, Nat.zero_le, Nat.reduceEqDiff, or_true, true_or, false_or, or_false, if_true, if_false, gI_0, gI_1, gI_2, gI_3, gI_4, gI_5, gI_6, gI_7, gI_8, gI_9, gI_10, gI_11, gI_12, gI_13, gI_14, gI_15, gL_0, gL_1, gL_2, gL_3, gL_4, gL_5, gL_6, gL_7, gL_8, gL_9, gL_10, gL_11, gL_12, gL_13, gL_14, gL_15, gA_0, gA_1, gA_2, gA_3, gA_4, gA_5, gA_6, gA_7, gA_8, gA_9, gA_10, gA_11, gA_12, gA_13, gA_14, gA_15, p1_0, p1_1, p1_2, p1_3, p1_4, p1_5, p1_6, p1_7, p1_8, p1_9, p1_10, p1_11, p1_12, p1_13, p1_14, p1_15, p2_0, p2_1, p2_2, p2_3, p2_4, p2_5, p2_6, p2_7, p2_8, p2_9, p2_10, p2_11, p2_12, p2_13, p2_14, p2_15, b01_ok, b_ft, b_tf, b01_e0, b01_e1, lgc_0, not_true_eq_false, not_false_eq_true, K, V, F, Bool.true_eq_false, Bool.false_eq_true, zm1, zm2, zm4, zm6, z10, v_whyNot, v_ref1 X, v_ref2 X, v_ref4 X, v_ref6 X, Bool.or_false, Bool.false_or, Bool.or_true, Bool.true_or, Bool.not_true, Bool.not_false, v_areTwo X, hp, h0, h0n, ite_self]
      exact kr (-2) (by simp [why, hp, h0, h0n]) (by decide)
    · have h0n := Int32.not_lt.mp h0
      by_cases h1 : 2 < w
      · have h1n := Int32.not_le.mpr h1
        simp only [e223, s223_0, s223_1, s223_2, s223_3, s223_6, s223_9, s223_10, s223_13, s223_14, s223_15, s223_16, s223_17, s223_20, s223_21, s223_22, s223_25, s223_26, s223_29, s223_30, s223_33, s223_35, s223_37, s223_40, s223_41, s223_43, s223_46, s223_47, s223_48, s223_51, s223_52, s223_55, s223_57, s223_58, s223_61, s223_62, s223_65, s223_67, s223_68, s223_71, s223_73, s223_75, s223_76, s223_79, s223_80, s223_81, s223_82, s223_85, s223_87, s223_89, s223_90, s223_93, s223_95, s223_97, s223_100, s223_101, s223_102, s223_105, oB_some, cl2_i, cl2_r, cl2_l, cl2_u, cl2_s, wd_0, wd_i, wd_r, wd_l, wd_f, ct_i, ct_r, ct_n, ct_f, rf_s, rf_n, tl_s, tl_n, true_and, and_true, eq_self, and_self, Nat.reduceAdd, Nat.reduceLeDiff, Nat.zero_le, Nat.reduceEqDiff, or_true, true_or, false_or, or_false, if_true, if_false, gI_0, gI_1, gI_2, gI_3, gI_4, gI_5, gI_6, gI_7, gI_8, gI_9, gI_10, gI_11, gI_12, gI_13, gI_14, gI_15, gL_0, gL_1, gL_2, gL_3, gL_4, gL_5, gL_6, gL_7, gL_8, gL_9, gL_10, gL_11, gL_12, gL_13, gL_14, gL_15, gA_0, gA_1, gA_2, gA_3, gA_4, gA_5, gA_6, gA_7, gA_8, gA_9, gA_10, gA_11, gA_12, gA_13, gA_14, gA_15, p1_0, p1_1, p1_2, p1_3, p1_4, p1_5, p1_6, p1_7, p1_8, p1_9, p1_10, p1_11, p1_12, p1_13, p1_14, p1_15, p2_0, p2_1, p2_2, p2_3, p2_4, p2_5, p2_6, p2_7, p2_8, p2_9, p2_10, p2_11, p2_12, p2_13, p2_14, p2_15, b01_ok, b_ft, b_tf, b01_e0, b01_e1, lgc_0, not_true_eq_false, not_false_eq_true, K, V, F, Bool.true_eq_false, Bool.false_eq_true, zm1, zm2, zm4, zm6, z10, v_whyNot, v_ref1 X, v_ref2 X, v_ref4 X, v_ref6 X, Bool.or_false, Bool.false_or, Bool.or_true, Bool.true_or, Bool.not_true, Bool.not_false, v_areTwo X, hp, h0n, h0, h1, h1n, ite_self]
        exact kr (-2) (by simp [why, hp, h0n, h0, h1, h1n]) (by decide)
      · have h1n := Int32.not_lt.mp h1
        have kk := k (by simp [why, hp, h0n, h0, h1n, h1])
        have hp2 := hp
        unfold arTwo at hp2
        rw [Bool.and_eq_true, Bool.and_eq_true] at hp2
        obtain ⟨i, hi, rfl⟩ := isPI_of g hp2.1.1
        obtain ⟨i2, hi2, rfl⟩ := isPI_of g hp2.1.2
        have s1 := (g.at hi).2.2.2.1
        unfold aCommon at kk
        rw [tc_n (show i < 2 ^ 31 by omega), tc_n (show i2 < 2 ^ 31 by omega)] at kk
        simp only [e223, s223_0, s223_1, s223_2, s223_3, s223_6, s223_9, s223_10, s223_13, s223_14, s223_15, s223_16, s223_17, s223_20, s223_21, s223_22, s223_25, s223_26, s223_29, s223_30, s223_33, s223_35, s223_37, s223_40, s223_41, s223_43, s223_46, s223_47, s223_48, s223_51, s223_52, s223_55, s223_57, s223_58, s223_61, s223_62, s223_65, s223_67, s223_68, s223_71, s223_73, s223_75, s223_76, s223_79, s223_80, s223_81, s223_82, s223_85, s223_87, s223_89, s223_90, s223_93, s223_95, s223_97, s223_100, s223_101, s223_102, s223_105, oB_some, cl2_i, cl2_r, cl2_l, cl2_u, cl2_s, wd_0, wd_i, wd_r, wd_l, wd_f, ct_i, ct_r, ct_n, ct_f, rf_s, rf_n, tl_s, tl_n, true_and, and_true, eq_self, and_self, Nat.reduceAdd, Nat.reduceLeDiff, Nat.zero_le, Nat.reduceEqDiff, or_true, true_or, false_or, or_false, if_true, if_false, gI_0, gI_1, gI_2, gI_3, gI_4, gI_5, gI_6, gI_7, gI_8, gI_9, gI_10, gI_11, gI_12, gI_13, gI_14, gI_15, gL_0, gL_1, gL_2, gL_3, gL_4, gL_5, gL_6, gL_7, gL_8, gL_9, gL_10, gL_11, gL_12, gL_13, gL_14, gL_15, gA_0, gA_1, gA_2, gA_3, gA_4, gA_5, gA_6, gA_7, gA_8, gA_9, gA_10, gA_11, gA_12, gA_13, gA_14, gA_15, p1_0, p1_1, p1_2, p1_3, p1_4, p1_5, p1_6, p1_7, p1_8, p1_9, p1_10, p1_11, p1_12, p1_13, p1_14, p1_15, p2_0, p2_1, p2_2, p2_3, p2_4, p2_5, p2_6, p2_7, p2_8, p2_9, p2_10, p2_11, p2_12, p2_13, p2_14, p2_15, b01_ok, b_ft, b_tf, b01_e0, b01_e1, lgc_0, not_true_eq_false, not_false_eq_true, K, V, F, Bool.true_eq_false, Bool.false_eq_true, zm1, zm2, zm4, zm6, z10, v_whyNot, v_ref1 X, v_ref2 X, v_ref4 X, v_ref6 X, Bool.or_false, Bool.false_or, Bool.or_true, Bool.true_or, Bool.not_true, Bool.not_false, v_areTwo X, hp, h0n, h0, h1n, h1, v_knownBy X.v g hi, v_knownBy X.v g hi2, v_bitCount (sm_and s1), v_bitCount (sm_or s1 (g.at hi2).2.2.2.1)]
        by_cases e : w = 0
        · rw [if_neg (not_not_intro e)]
          rw [if_pos e] at kk
          exact kk h Fm.rf
        · rw [if_pos e]
          rw [if_neg e] at kk
          by_cases e2 : w = 1
          · rw [if_neg (not_not_intro e2)]
            rw [if_pos e2] at kk
            exact kk h Fm.rf
          · rw [if_pos e2]
            rw [if_neg e2] at kk
            exact kk h Fm.rf
set_option maxHeartbeats 8000000 in
theorem x_rarest {d : Nat} {Q : PQ} {h : HP} {x : Nat} {w : Int32} {S : VS} (X : XQ h x S) (g : Good S) (hy : vy S ≤ 999)
    (kr : ∀ y, why false false false (decide (w < 0) || decide (2 < w)) = y → ¬ y = 0 → Q (some (.int y)) (RfC h x y))
    (k : why false false false (decide (w < 0) || decide (2 < w)) = 0 → ∀ h', Fm (x + 20) 14 h h' → Q (some (.int (aRarest S w))) h') : Ev (d + 6) 225 [.ref x, .int w] h Q := by
  have K := X.1
  unfold XK at K
  have V := X.v.k
  unfold VK at V
  have F := X.2.1.1
  have gn := g.n
  have gl := g.l
  by_cases h0 : w < 0
  · have h0n := Int32.not_le.mpr h0
    simp only [e225, s225_0, s225_1, s225_4, s225_5, s225_6, s225_9, s225_10, s225_12, s225_15, s225_16, s225_17, s225_20, s225_23, s225_24, s225_25, s225_28, s225_29, s225_30, s225_31, s225_32, s225_35, s225_36, s225_39, s225_40, s225_43, s225_46, s225_48, s225_49, s225_52, s225_55, s225_58, s225_59, oB_some, cl2_i, cl2_r, cl2_l, cl2_u, cl2_s, wd_0, wd_i, wd_r, wd_l, wd_f, ct_i, ct_r, ct_n, ct_f, rf_s, rf_n, tl_s, tl_n, true_and, and_true, eq_self, and_self, Nat.reduceAdd, Nat.reduceLeDiff, Nat.zero_le, Nat.reduceEqDiff, or_true, true_or, false_or, or_false, if_true, if_false, gI_0, gI_1, gI_2, gI_3, gI_4, gI_5, gI_6, gI_7, gI_8, gI_9, gI_10, gI_11, gI_12, gI_13, gI_14, gI_15, gL_0, gL_1, gL_2, gL_3, gL_4, gL_5, gL_6, gL_7, gL_8, gL_9, gL_10, gL_11, gL_12, gL_13, gL_14, gL_15, gA_0, gA_1, gA_2, gA_3, gA_4, gA_5, gA_6, gA_7, gA_8, gA_9, gA_10, gA_11, gA_12, gA_13, gA_14, gA_15, p1_0, p1_1, p1_2, p1_3, p1_4, p1_5, p1_6, p1_7, p1_8, p1_9, p1_10, p1_11, p1_12, p1_13, p1_14, p1_15, p2_0, p2_1, p2_2, p2_3, p2_4, p2_5, p2_6, p2_7, p2_8, p2_9, p2_10, p2_11, p2_12, p2_13, p2_14, p2_15, b01_ok, b_ft, b_tf, b01_e0, b01_e1, lgc_0, not_true_eq_false, not_false_eq_true, K, V, F, Bool.true_eq_false, Bool.false_eq_true, zm1, zm2, zm4, zm6, z10, v_whyNot, v_ref1 X, v_ref2 X, v_ref4 X, v_ref6 X, Bool.or_false, Bool.false_or, Bool.or_true, Bool.true_or, Bool.not_true, Bool.not_false, h0, h0n, ite_self]
    exact kr (-2) (by simp [why, h0, h0n]) (by decide)
  · have h0n := Int32.not_lt.mp h0
    by_cases h1 : 2 < w
    · have h1n := Int32.not_le.mpr h1
      simp only [e225, s225_0, s225_1, s225_4, s225_5, s225_6, s225_9, s225_10, s225_12, s225_15, s225_16, s225_17, s225_20, s225_23, s225_24, s225_25, s225_28, s225_29, s225_30, s225_31, s225_32, s225_35, s225_36, s225_39, s225_40, s225_43, s225_46, s225_48, s225_49, s225_52, s225_55, s225_58, s225_59, oB_some, cl2_i, cl2_r, cl2_l, cl2_u, cl2_s, wd_0, wd_i, wd_r, wd_l, wd_f, ct_i, ct_r, ct_n, ct_f, rf_s, rf_n, tl_s, tl_n, true_and, and_true, eq_self, and_self, Nat.reduceAdd, Nat.reduceLeDiff, Nat.zero_le, Nat.reduceEqDiff, or_true, true_or, false_or, or_false, if_true, if_false, gI_0, gI_1, gI_2, gI_3, gI_4, gI_5, gI_6, gI_7, gI_8, gI_9, gI_10, gI_11, gI_12, gI_13, gI_14, gI_15, gL_0, gL_1, gL_2, gL_3, gL_4, gL_5, gL_6, gL_7, gL_8, gL_9, gL_10, gL_11, gL_12, gL_13, gL_14, gL_15, gA_0, gA_1, gA_2, gA_3, gA_4, gA_5, gA_6, gA_7, gA_8, gA_9, gA_10, gA_11, gA_12, gA_13, gA_14, gA_15, p1_0, p1_1, p1_2, p1_3, p1_4, p1_5, p1_6, p1_7, p1_8, p1_9, p1_10, p1_11, p1_12, p1_13, p1_14, p1_15, p2_0, p2_1, p2_2, p2_3, p2_4, p2_5, p2_6, p2_7, p2_8, p2_9, p2_10, p2_11, p2_12, p2_13, p2_14, p2_15, b01_ok, b_ft, b_tf, b01_e0, b01_e1, lgc_0, not_true_eq_false, not_false_eq_true, K, V, F, Bool.true_eq_false, Bool.false_eq_true, zm1, zm2, zm4, zm6, z10, v_whyNot, v_ref1 X, v_ref2 X, v_ref4 X, v_ref6 X, Bool.or_false, Bool.false_or, Bool.or_true, Bool.true_or, Bool.not_true, Bool.not_false, h0n, h0, h1, h1n, ite_self]
      exact kr (-2) (by simp [why, h0n, h0, h1, h1n]) (by decide)
    · have h1n := Int32.not_lt.mp h1
      have kk := k (by simp [why, h0n, h0, h1n, h1])
      have sa : sm (anyW S) := by
        unfold anyW
        have : ∀ n, n ≤ vn S → sm (orN (vw S) n) := fun n => by
          induction n with
          | zero => intro _; exact sm_0
          | succ n ih => intro hn; exact sm_or (ih (by omega)) (g.at (by omega)).2.2.2.1
        exact this _ (Nat.le_refl _)
      unfold aRarest at kk
      cases e : (rareA S 40 (none, 7)).1 with
      | none =>
        rw [e] at kk
        simp only [e225, s225_0, s225_1, s225_4, s225_5, s225_6, s225_9, s225_10, s225_12, s225_15, s225_16, s225_17, s225_20, s225_23, s225_24, s225_25, s225_28, s225_29, s225_30, s225_31, s225_32, s225_35, s225_36, s225_39, s225_40, s225_43, s225_46, s225_48, s225_49, s225_52, s225_55, s225_58, s225_59, oB_some, cl2_i, cl2_r, cl2_l, cl2_u, cl2_s, wd_0, wd_i, wd_r, wd_l, wd_f, ct_i, ct_r, ct_n, ct_f, rf_s, rf_n, tl_s, tl_n, true_and, and_true, eq_self, and_self, Nat.reduceAdd, Nat.reduceLeDiff, Nat.zero_le, Nat.reduceEqDiff, or_true, true_or, false_or, or_false, if_true, if_false, gI_0, gI_1, gI_2, gI_3, gI_4, gI_5, gI_6, gI_7, gI_8, gI_9, gI_10, gI_11, gI_12, gI_13, gI_14, gI_15, gL_0, gL_1, gL_2, gL_3, gL_4, gL_5, gL_6, gL_7, gL_8, gL_9, gL_10, gL_11, gL_12, gL_13, gL_14, gL_15, gA_0, gA_1, gA_2, gA_3, gA_4, gA_5, gA_6, gA_7, gA_8, gA_9, gA_10, gA_11, gA_12, gA_13, gA_14, gA_15, p1_0, p1_1, p1_2, p1_3, p1_4, p1_5, p1_6, p1_7, p1_8, p1_9, p1_10, p1_11, p1_12, p1_13, p1_14, p1_15, p2_0, p2_1, p2_2, p2_3, p2_4, p2_5, p2_6, p2_7, p2_8, p2_9, p2_10, p2_11, p2_12, p2_13, p2_14, p2_15, b01_ok, b_ft, b_tf, b01_e0, b01_e1, lgc_0, not_true_eq_false, not_false_eq_true, K, V, F, Bool.true_eq_false, Bool.false_eq_true, zm1, zm2, zm4, zm6, z10, v_whyNot, v_ref1 X, v_ref2 X, v_ref4 X, v_ref6 X, Bool.or_false, Bool.false_or, Bool.or_true, Bool.true_or, Bool.not_true, Bool.not_false, h0n, h0, h1n, h1, v_rarest X.v g, e, oN_none, v_howManyKnow9 X.v g, v_knownByAny X.v g, v_bitCount sa]
        by_cases e1 : w = 0
        · rw [if_neg (not_not_intro e1)]
          rw [if_pos e1] at kk
          exact kk h Fm.rf
        · rw [if_pos e1]
          rw [if_neg e1] at kk
          by_cases e2 : w = 1
          · rw [if_neg (not_not_intro e2)]
            rw [if_pos e2] at kk
            exact kk h Fm.rf
          · rw [if_pos e2]
            rw [if_neg e2] at kk
            exact kk h Fm.rf
      | some c =>
        rw [e] at kk
        have hc := rareA_lt e
        simp only [e225, s225_0, s225_1, s225_4, s225_5, s225_6, s225_9, s225_10, s225_12, s225_15, s225_16, s225_17, s225_20, s225_23, s225_24, s225_25, s225_28, s225_29, s225_30, s225_31, s225_32, s225_35, s225_36, s225_39, s225_40, s225_43, s225_46, s225_48, s225_49, s225_52, s225_55, s225_58, s225_59, oB_some, cl2_i, cl2_r, cl2_l, cl2_u, cl2_s, wd_0, wd_i, wd_r, wd_l, wd_f, ct_i, ct_r, ct_n, ct_f, rf_s, rf_n, tl_s, tl_n, true_and, and_true, eq_self, and_self, Nat.reduceAdd, Nat.reduceLeDiff, Nat.zero_le, Nat.reduceEqDiff, or_true, true_or, false_or, or_false, if_true, if_false, gI_0, gI_1, gI_2, gI_3, gI_4, gI_5, gI_6, gI_7, gI_8, gI_9, gI_10, gI_11, gI_12, gI_13, gI_14, gI_15, gL_0, gL_1, gL_2, gL_3, gL_4, gL_5, gL_6, gL_7, gL_8, gL_9, gL_10, gL_11, gL_12, gL_13, gL_14, gL_15, gA_0, gA_1, gA_2, gA_3, gA_4, gA_5, gA_6, gA_7, gA_8, gA_9, gA_10, gA_11, gA_12, gA_13, gA_14, gA_15, p1_0, p1_1, p1_2, p1_3, p1_4, p1_5, p1_6, p1_7, p1_8, p1_9, p1_10, p1_11, p1_12, p1_13, p1_14, p1_15, p2_0, p2_1, p2_2, p2_3, p2_4, p2_5, p2_6, p2_7, p2_8, p2_9, p2_10, p2_11, p2_12, p2_13, p2_14, p2_15, b01_ok, b_ft, b_tf, b01_e0, b01_e1, lgc_0, not_true_eq_false, not_false_eq_true, K, V, F, Bool.true_eq_false, Bool.false_eq_true, zm1, zm2, zm4, zm6, z10, v_whyNot, v_ref1 X, v_ref2 X, v_ref4 X, v_ref6 X, Bool.or_false, Bool.false_or, Bool.or_true, Bool.true_or, Bool.not_true, Bool.not_false, h0n, h0, h1n, h1, v_rarest X.v g, e, oN_some, v_howManyKnow X.v g (show c < 64 by omega), v_knownByAny X.v g, v_bitCount sa]
        by_cases e1 : w = 0
        · rw [if_neg (not_not_intro e1)]
          rw [if_pos e1] at kk
          exact kk h Fm.rf
        · rw [if_pos e1]
          rw [if_neg e1] at kk
          by_cases e2 : w = 1
          · rw [if_neg (not_not_intro e2)]
            rw [if_pos e2] at kk
            exact kk h Fm.rf
          · rw [if_pos e2]
            rw [if_neg e2] at kk
            exact kk h Fm.rf
set_option maxHeartbeats 8000000 in
theorem x_bag {d : Nat} {Q : PQ} {h : HP} {x : Nat} {w : Int32} {S : VS} (X : XQ h x S) (g : Good S) (hy : vy S ≤ 999)
    (kr : ∀ y, why false false false (decide (w < 0) || decide (2 < w)) = y → ¬ y = 0 → Q (some (.int y)) (RfC h x y))
    (k : why false false false (decide (w < 0) || decide (2 < w)) = 0 → ∀ h', Fm (x + 20) 14 h h' → Q (some (.int (aBag S w))) h') : Ev (d + 8) 235 [.ref x, .int w] h Q := by
  have K := X.1
  unfold XK at K
  have V := X.v.k
  unfold VK at V
  have F := X.2.1.1
  have gn := g.n
  have gl := g.l
  by_cases h0 : w < 0
  · have h0n := Int32.not_le.mpr h0
    simp only [e235, s235_0, s235_1, s235_4, s235_5, s235_6, s235_9, s235_10, s235_12, s235_15, s235_16, s235_17, s235_20, s235_21, s235_24, s235_27, s235_30, s235_31, s235_32, s235_33, s235_36, s235_37, s235_40, s235_43, s235_46, s235_47, s235_50, s235_53, s235_56, oB_some, cl2_i, cl2_r, cl2_l, cl2_u, cl2_s, wd_0, wd_i, wd_r, wd_l, wd_f, ct_i, ct_r, ct_n, ct_f, rf_s, rf_n, tl_s, tl_n, true_and, and_true, eq_self, and_self, Nat.reduceAdd, Nat.reduceLeDiff, Nat.zero_le, Nat.reduceEqDiff, or_true, true_or, false_or, or_false, if_true, if_false, gI_0, gI_1, gI_2, gI_3, gI_4, gI_5, gI_6, gI_7, gI_8, gI_9, gI_10, gI_11, gI_12, gI_13, gI_14, gI_15, gL_0, gL_1, gL_2, gL_3, gL_4, gL_5, gL_6, gL_7, gL_8, gL_9, gL_10, gL_11, gL_12, gL_13, gL_14, gL_15, gA_0, gA_1, gA_2, gA_3, gA_4, gA_5, gA_6, gA_7, gA_8, gA_9, gA_10, gA_11, gA_12, gA_13, gA_14, gA_15, p1_0, p1_1, p1_2, p1_3, p1_4, p1_5, p1_6, p1_7, p1_8, p1_9, p1_10, p1_11, p1_12, p1_13, p1_14, p1_15, p2_0, p2_1, p2_2, p2_3, p2_4, p2_5, p2_6, p2_7, p2_8, p2_9, p2_10, p2_11, p2_12, p2_13, p2_14, p2_15, b01_ok, b_ft, b_tf, b01_e0, b01_e1, lgc_0, not_true_eq_false, not_false_eq_true, K, V, F, Bool.true_eq_false, Bool.false_eq_true, zm1, zm2, zm4, zm6, z10, v_whyNot, v_ref1 X, v_ref2 X, v_ref4 X, v_ref6 X, Bool.or_false, Bool.false_or, Bool.or_true, Bool.true_or, Bool.not_true, Bool.not_false, h0, h0n, ite_self]
    exact kr (-2) (by simp [why, h0, h0n]) (by decide)
  · have h0n := Int32.not_lt.mp h0
    by_cases h1 : 2 < w
    · have h1n := Int32.not_le.mpr h1
      simp only [e235, s235_0, s235_1, s235_4, s235_5, s235_6, s235_9, s235_10, s235_12, s235_15, s235_16, s235_17, s235_20, s235_21, s235_24, s235_27, s235_30, s235_31, s235_32, s235_33, s235_36, s235_37, s235_40, s235_43, s235_46, s235_47, s235_50, s235_53, s235_56, oB_some, cl2_i, cl2_r, cl2_l, cl2_u, cl2_s, wd_0, wd_i, wd_r, wd_l, wd_f, ct_i, ct_r, ct_n, ct_f, rf_s, rf_n, tl_s, tl_n, true_and, and_true, eq_self, and_self, Nat.reduceAdd, Nat.reduceLeDiff, Nat.zero_le, Nat.reduceEqDiff, or_true, true_or, false_or, or_false, if_true, if_false, gI_0, gI_1, gI_2, gI_3, gI_4, gI_5, gI_6, gI_7, gI_8, gI_9, gI_10, gI_11, gI_12, gI_13, gI_14, gI_15, gL_0, gL_1, gL_2, gL_3, gL_4, gL_5, gL_6, gL_7, gL_8, gL_9, gL_10, gL_11, gL_12, gL_13, gL_14, gL_15, gA_0, gA_1, gA_2, gA_3, gA_4, gA_5, gA_6, gA_7, gA_8, gA_9, gA_10, gA_11, gA_12, gA_13, gA_14, gA_15, p1_0, p1_1, p1_2, p1_3, p1_4, p1_5, p1_6, p1_7, p1_8, p1_9, p1_10, p1_11, p1_12, p1_13, p1_14, p1_15, p2_0, p2_1, p2_2, p2_3, p2_4, p2_5, p2_6, p2_7, p2_8, p2_9, p2_10, p2_11, p2_12, p2_13, p2_14, p2_15, b01_ok, b_ft, b_tf, b01_e0, b01_e1, lgc_0, not_true_eq_false, not_false_eq_true, K, V, F, Bool.true_eq_false, Bool.false_eq_true, zm1, zm2, zm4, zm6, z10, v_whyNot, v_ref1 X, v_ref2 X, v_ref4 X, v_ref6 X, Bool.or_false, Bool.false_or, Bool.or_true, Bool.true_or, Bool.not_true, Bool.not_false, h0n, h0, h1, h1n, ite_self]
      exact kr (-2) (by simp [why, h0n, h0, h1, h1n]) (by decide)
    · have h1n := Int32.not_lt.mp h1
      have kk := k (by simp [why, h0n, h0, h1n, h1])
      unfold aBag at kk
      by_cases e1 : w = 0
      · rw [if_pos e1] at kk
        subst e1
        simp only [e235, oB_some, cl2_i, cl2_r, cl2_l, cl2_u, cl2_s, wd_0, wd_i, wd_r, wd_l, wd_f, ct_i, ct_r, ct_n, ct_f, rf_s, rf_n, tl_s, tl_n, true_and, and_true, eq_self, and_self, Nat.reduceAdd, Nat.reduceLeDiff, Nat.zero_le, Nat.reduceEqDiff, or_true, true_or, false_or, or_false, if_true, if_false, gI_0, gI_1, gI_2, gI_3, gI_4, gI_5, gI_6, gI_7, gI_8, gI_9, gI_10, gI_11, gI_12, gI_13, gI_14, gI_15, gL_0, gL_1, gL_2, gL_3, gL_4, gL_5, gL_6, gL_7, gL_8, gL_9, gL_10, gL_11, gL_12, gL_13, gL_14, gL_15, gA_0, gA_1, gA_2, gA_3, gA_4, gA_5, gA_6, gA_7, gA_8, gA_9, gA_10, gA_11, gA_12, gA_13, gA_14, gA_15, p1_0, p1_1, p1_2, p1_3, p1_4, p1_5, p1_6, p1_7, p1_8, p1_9, p1_10, p1_11, p1_12, p1_13, p1_14, p1_15, p2_0, p2_1, p2_2, p2_3, p2_4, p2_5, p2_6, p2_7, p2_8, p2_9, p2_10, p2_11, p2_12, p2_13, p2_14, p2_15, b01_ok, b_ft, b_tf, b01_e0, b01_e1, lgc_0, not_true_eq_false, not_false_eq_true, K, V, F, Bool.true_eq_false, Bool.false_eq_true, zm1, zm2, zm4, zm6, z10, v_whyNot, v_ref1 X, v_ref2 X, v_ref4 X, v_ref6 X, Bool.or_false, Bool.false_or, Bool.or_true, Bool.true_or, Bool.not_true, Bool.not_false, h0n, h0, h1n, h1, s235_0, s235_1, s235_4, s235_5, s235_6, s235_9, s235_10, s235_12, s235_15, s235_16, s235_17, s235_20, s235_21, s235_24]
        refine v_asItIs X.2.1 g fun h1 m1 q1 f1 => ?_
        have K1 := q1.k
        unfold VK at K1
        simp only [s235_27, oB_some, cl2_i, cl2_r, cl2_l, cl2_u, cl2_s, wd_0, wd_i, wd_r, wd_l, wd_f, ct_i, ct_r, ct_n, ct_f, rf_s, rf_n, tl_s, tl_n, true_and, and_true, eq_self, and_self, Nat.reduceAdd, Nat.reduceLeDiff, Nat.zero_le, Nat.reduceEqDiff, or_true, true_or, false_or, or_false, if_true, if_false, gI_0, gI_1, gI_2, gI_3, gI_4, gI_5, gI_6, gI_7, gI_8, gI_9, gI_10, gI_11, gI_12, gI_13, gI_14, gI_15, gL_0, gL_1, gL_2, gL_3, gL_4, gL_5, gL_6, gL_7, gL_8, gL_9, gL_10, gL_11, gL_12, gL_13, gL_14, gL_15, gA_0, gA_1, gA_2, gA_3, gA_4, gA_5, gA_6, gA_7, gA_8, gA_9, gA_10, gA_11, gA_12, gA_13, gA_14, gA_15, p1_0, p1_1, p1_2, p1_3, p1_4, p1_5, p1_6, p1_7, p1_8, p1_9, p1_10, p1_11, p1_12, p1_13, p1_14, p1_15, p2_0, p2_1, p2_2, p2_3, p2_4, p2_5, p2_6, p2_7, p2_8, p2_9, p2_10, p2_11, p2_12, p2_13, p2_14, p2_15, b01_ok, b_ft, b_tf, b01_e0, b01_e1, lgc_0, not_true_eq_false, not_false_eq_true, K1]
        refine v_haveWholeBag q1 g f1 fun h2 m2 q2 f2 => ?_
        simp only [s235_30, oB_some, cl2_i, cl2_r, cl2_l, cl2_u, cl2_s, wd_0, wd_i, wd_r, wd_l, wd_f, ct_i, ct_r, ct_n, ct_f, rf_s, rf_n, tl_s, tl_n, true_and, and_true, eq_self, and_self, Nat.reduceAdd, Nat.reduceLeDiff, Nat.zero_le, Nat.reduceEqDiff, or_true, true_or, false_or, or_false, if_true, if_false, gI_0, gI_1, gI_2, gI_3, gI_4, gI_5, gI_6, gI_7, gI_8, gI_9, gI_10, gI_11, gI_12, gI_13, gI_14, gI_15, gL_0, gL_1, gL_2, gL_3, gL_4, gL_5, gL_6, gL_7, gL_8, gL_9, gL_10, gL_11, gL_12, gL_13, gL_14, gL_15, gA_0, gA_1, gA_2, gA_3, gA_4, gA_5, gA_6, gA_7, gA_8, gA_9, gA_10, gA_11, gA_12, gA_13, gA_14, gA_15, p1_0, p1_1, p1_2, p1_3, p1_4, p1_5, p1_6, p1_7, p1_8, p1_9, p1_10, p1_11, p1_12, p1_13, p1_14, p1_15, p2_0, p2_1, p2_2, p2_3, p2_4, p2_5, p2_6, p2_7, p2_8, p2_9, p2_10, p2_11, p2_12, p2_13, p2_14, p2_15, b01_ok, b_ft, b_tf, b01_e0, b01_e1, lgc_0, not_true_eq_false, not_false_eq_true]
        exact kk h2 ((m1.tr m2).wide (Nat.le_refl _) (by omega))
      · rw [if_neg e1] at kk
        by_cases e2 : w = 1
        · rw [if_pos e2] at kk
          subst e2
          simp only [e235, oB_some, cl2_i, cl2_r, cl2_l, cl2_u, cl2_s, wd_0, wd_i, wd_r, wd_l, wd_f, ct_i, ct_r, ct_n, ct_f, rf_s, rf_n, tl_s, tl_n, true_and, and_true, eq_self, and_self, Nat.reduceAdd, Nat.reduceLeDiff, Nat.zero_le, Nat.reduceEqDiff, or_true, true_or, false_or, or_false, if_true, if_false, gI_0, gI_1, gI_2, gI_3, gI_4, gI_5, gI_6, gI_7, gI_8, gI_9, gI_10, gI_11, gI_12, gI_13, gI_14, gI_15, gL_0, gL_1, gL_2, gL_3, gL_4, gL_5, gL_6, gL_7, gL_8, gL_9, gL_10, gL_11, gL_12, gL_13, gL_14, gL_15, gA_0, gA_1, gA_2, gA_3, gA_4, gA_5, gA_6, gA_7, gA_8, gA_9, gA_10, gA_11, gA_12, gA_13, gA_14, gA_15, p1_0, p1_1, p1_2, p1_3, p1_4, p1_5, p1_6, p1_7, p1_8, p1_9, p1_10, p1_11, p1_12, p1_13, p1_14, p1_15, p2_0, p2_1, p2_2, p2_3, p2_4, p2_5, p2_6, p2_7, p2_8, p2_9, p2_10, p2_11, p2_12, p2_13, p2_14, p2_15, b01_ok, b_ft, b_tf, b01_e0, b01_e1, lgc_0, not_true_eq_false, not_false_eq_true, K, V, F, Bool.true_eq_false, Bool.false_eq_true, zm1, zm2, zm4, zm6, z10, v_whyNot, v_ref1 X, v_ref2 X, v_ref4 X, v_ref6 X, Bool.or_false, Bool.false_or, Bool.or_true, Bool.true_or, Bool.not_true, Bool.not_false, h0n, h0, h1n, h1, s235_0, s235_1, s235_4, s235_5, s235_6, s235_9, s235_10, s235_12, s235_15, s235_16, s235_17, s235_20, s235_21, s235_24, s235_27, s235_30, s235_31, s235_32, s235_33, s235_36, s235_37, s235_40, z10]
          refine v_longestStill X.2.1 g (by omega) fun h1 m1 => ?_
          simp only [s235_43, s235_46, s235_47, s235_50, s235_53, s235_56, oB_some, cl2_i, cl2_r, cl2_l, cl2_u, cl2_s, wd_0, wd_i, wd_r, wd_l, wd_f, ct_i, ct_r, ct_n, ct_f, rf_s, rf_n, tl_s, tl_n, true_and, and_true, eq_self, and_self, Nat.reduceAdd, Nat.reduceLeDiff, Nat.zero_le, Nat.reduceEqDiff, or_true, true_or, false_or, or_false, if_true, if_false, gI_0, gI_1, gI_2, gI_3, gI_4, gI_5, gI_6, gI_7, gI_8, gI_9, gI_10, gI_11, gI_12, gI_13, gI_14, gI_15, gL_0, gL_1, gL_2, gL_3, gL_4, gL_5, gL_6, gL_7, gL_8, gL_9, gL_10, gL_11, gL_12, gL_13, gL_14, gL_15, gA_0, gA_1, gA_2, gA_3, gA_4, gA_5, gA_6, gA_7, gA_8, gA_9, gA_10, gA_11, gA_12, gA_13, gA_14, gA_15, p1_0, p1_1, p1_2, p1_3, p1_4, p1_5, p1_6, p1_7, p1_8, p1_9, p1_10, p1_11, p1_12, p1_13, p1_14, p1_15, p2_0, p2_1, p2_2, p2_3, p2_4, p2_5, p2_6, p2_7, p2_8, p2_9, p2_10, p2_11, p2_12, p2_13, p2_14, p2_15, b01_ok, b_ft, b_tf, b01_e0, b01_e1, lgc_0, not_true_eq_false, not_false_eq_true]
          exact kk h1 (m1.wide (Nat.le_refl _) (by omega))
        · rw [if_neg e2] at kk
          simp only [e235, s235_0, s235_1, s235_4, s235_5, s235_6, s235_9, s235_10, s235_12, s235_15, s235_16, s235_17, s235_20, s235_21, s235_24, s235_27, s235_30, s235_31, s235_32, s235_33, s235_36, s235_37, s235_40, s235_43, s235_46, s235_47, s235_50, s235_53, s235_56, oB_some, cl2_i, cl2_r, cl2_l, cl2_u, cl2_s, wd_0, wd_i, wd_r, wd_l, wd_f, ct_i, ct_r, ct_n, ct_f, rf_s, rf_n, tl_s, tl_n, true_and, and_true, eq_self, and_self, Nat.reduceAdd, Nat.reduceLeDiff, Nat.zero_le, Nat.reduceEqDiff, or_true, true_or, false_or, or_false, if_true, if_false, gI_0, gI_1, gI_2, gI_3, gI_4, gI_5, gI_6, gI_7, gI_8, gI_9, gI_10, gI_11, gI_12, gI_13, gI_14, gI_15, gL_0, gL_1, gL_2, gL_3, gL_4, gL_5, gL_6, gL_7, gL_8, gL_9, gL_10, gL_11, gL_12, gL_13, gL_14, gL_15, gA_0, gA_1, gA_2, gA_3, gA_4, gA_5, gA_6, gA_7, gA_8, gA_9, gA_10, gA_11, gA_12, gA_13, gA_14, gA_15, p1_0, p1_1, p1_2, p1_3, p1_4, p1_5, p1_6, p1_7, p1_8, p1_9, p1_10, p1_11, p1_12, p1_13, p1_14, p1_15, p2_0, p2_1, p2_2, p2_3, p2_4, p2_5, p2_6, p2_7, p2_8, p2_9, p2_10, p2_11, p2_12, p2_13, p2_14, p2_15, b01_ok, b_ft, b_tf, b01_e0, b01_e1, lgc_0, not_true_eq_false, not_false_eq_true, K, V, F, Bool.true_eq_false, Bool.false_eq_true, zm1, zm2, zm4, zm6, z10, v_whyNot, v_ref1 X, v_ref2 X, v_ref4 X, v_ref6 X, Bool.or_false, Bool.false_or, Bool.or_true, Bool.true_or, Bool.not_true, Bool.not_false, h0n, h0, h1n, h1, e1, e2, v_busiest X.v g]
          exact kk h Fm.rf
set_option maxHeartbeats 8000000 in
theorem x_lamp {d : Nat} {Q : PQ} {h : HP} {x : Nat} {p : Int32} {S : VS} (X : XQ h x S) (g : Good S) (hy : vy S ≤ 999)
    (kr : ∀ y, why (!inBg S p) false false false = y → ¬ y = 0 → Q (some (.int y)) (RfC h x y))
    (k : why (!inBg S p) false false false = 0 → ∀ h', Fm (x + 20) 14 h h' → Q (some (.int (p / 3 + 1))) h') : Ev (d + 4) 233 [.ref x, .int p] h Q := by
  have K := X.1
  unfold XK at K
  have V := X.v.k
  unfold VK at V
  have F := X.2.1.1
  have gn := g.n
  have gl := g.l
  cases hp : inBg S p with
  | false =>
    simp only [e233, s233_0, s233_1, s233_2, s233_5, s233_8, s233_9, s233_10, s233_11, s233_12, s233_13, s233_16, s233_17, s233_18, s233_21, oB_some, cl2_i, cl2_r, cl2_l, cl2_u, cl2_s, wd_0, wd_i, wd_r, wd_l, wd_f, ct_i, ct_r, ct_n, ct_f, rf_s, rf_n, tl_s, tl_n, true_and, and_true, eq_self, and_self, Nat.reduceAdd, Nat.reduceLeDiff, Nat.zero_le, Nat.reduceEqDiff, or_true, true_or, false_or, or_false, if_true, if_false, gI_0, gI_1, gI_2, gI_3, gI_4, gI_5, gI_6, gI_7, gI_8, gI_9, gI_10, gI_11, gI_12, gI_13, gI_14, gI_15, gL_0, gL_1, gL_2, gL_3, gL_4, gL_5, gL_6, gL_7, gL_8, gL_9, gL_10, gL_11, gL_12, gL_13, gL_14, gL_15, gA_0, gA_1, gA_2, gA_3, gA_4, gA_5, gA_6, gA_7, gA_8, gA_9, gA_10, gA_11, gA_12, gA_13, gA_14, gA_15, p1_0, p1_1, p1_2, p1_3, p1_4, p1_5, p1_6, p1_7, p1_8, p1_9, p1_10, p1_11, p1_12, p1_13, p1_14, p1_15, p2_0, p2_1, p2_2, p2_3, p2_4, p2_5, p2_6, p2_7, p2_8, p2_9, p2_10, p2_11, p2_12, p2_13, p2_14, p2_15, b01_ok, b_ft, b_tf, b01_e0, b01_e1, lgc_0, not_true_eq_false, not_false_eq_true, K, V, F, Bool.true_eq_false, Bool.false_eq_true, zm1, zm2, zm4, zm6, z10, v_whyNot, v_ref1 X, v_ref2 X, v_ref4 X, v_ref6 X, Bool.or_false, Bool.false_or, Bool.or_true, Bool.true_or, Bool.not_true, Bool.not_false, v_isInBag X, hp, ite_self]
    exact kr (-1) (by simp [why, hp]) (by decide)
  | true =>
    have kk := k (by simp [why, hp])
    simp only [e233, s233_0, s233_1, s233_2, s233_5, s233_8, s233_9, s233_10, s233_11, s233_12, s233_13, s233_16, s233_17, s233_18, s233_21, oB_some, cl2_i, cl2_r, cl2_l, cl2_u, cl2_s, wd_0, wd_i, wd_r, wd_l, wd_f, ct_i, ct_r, ct_n, ct_f, rf_s, rf_n, tl_s, tl_n, true_and, and_true, eq_self, and_self, Nat.reduceAdd, Nat.reduceLeDiff, Nat.zero_le, Nat.reduceEqDiff, or_true, true_or, false_or, or_false, if_true, if_false, gI_0, gI_1, gI_2, gI_3, gI_4, gI_5, gI_6, gI_7, gI_8, gI_9, gI_10, gI_11, gI_12, gI_13, gI_14, gI_15, gL_0, gL_1, gL_2, gL_3, gL_4, gL_5, gL_6, gL_7, gL_8, gL_9, gL_10, gL_11, gL_12, gL_13, gL_14, gL_15, gA_0, gA_1, gA_2, gA_3, gA_4, gA_5, gA_6, gA_7, gA_8, gA_9, gA_10, gA_11, gA_12, gA_13, gA_14, gA_15, p1_0, p1_1, p1_2, p1_3, p1_4, p1_5, p1_6, p1_7, p1_8, p1_9, p1_10, p1_11, p1_12, p1_13, p1_14, p1_15, p2_0, p2_1, p2_2, p2_3, p2_4, p2_5, p2_6, p2_7, p2_8, p2_9, p2_10, p2_11, p2_12, p2_13, p2_14, p2_15, b01_ok, b_ft, b_tf, b01_e0, b01_e1, lgc_0, not_true_eq_false, not_false_eq_true, K, V, F, Bool.true_eq_false, Bool.false_eq_true, zm1, zm2, zm4, zm6, z10, v_whyNot, v_ref1 X, v_ref2 X, v_ref4 X, v_ref6 X, Bool.or_false, Bool.false_or, Bool.or_true, Bool.true_or, Bool.not_true, Bool.not_false, v_isInBag X, hp, n3_0]
    exact kk h Fm.rf
set_option maxHeartbeats 8000000 in
theorem x_kinds {d : Nat} {Q : PQ} {h : HP} {x : Nat} {c : Int32} {S : VS} (X : XQ h x S) (g : Good S) (hy : vy S ≤ 999)
    (kr : ∀ y, why false false false (decide (c < 0) || decide (7 < c)) = y → ¬ y = 0 → Q (some (.int y)) (RfC h x y))
    (k : why false false false (decide (c < 0) || decide (7 < c)) = 0 → ∀ h', Fm (x + 20) 14 h h' → Q (some (.int (aKinds S c))) h') : Ev (d + 4) 246 [.ref x, .int c] h Q := by
  have K := X.1
  unfold XK at K
  have V := X.v.k
  unfold VK at V
  have F := X.2.1.1
  have gn := g.n
  have gl := g.l
  by_cases h0 : c < 0
  · have h0n := Int32.not_le.mpr h0
    simp only [e246, s246_0, s246_1, s246_4, s246_7, s246_8, s246_11, s246_12, s246_15, s246_18, s246_19, s246_21, s246_24, oB_some, cl2_i, cl2_r, cl2_l, cl2_u, cl2_s, wd_0, wd_i, wd_r, wd_l, wd_f, ct_i, ct_r, ct_n, ct_f, rf_s, rf_n, tl_s, tl_n, true_and, and_true, eq_self, and_self, Nat.reduceAdd, Nat.reduceLeDiff, Nat.zero_le, Nat.reduceEqDiff, or_true, true_or, false_or, or_false, if_true, if_false, gI_0, gI_1, gI_2, gI_3, gI_4, gI_5, gI_6, gI_7, gI_8, gI_9, gI_10, gI_11, gI_12, gI_13, gI_14, gI_15, gL_0, gL_1, gL_2, gL_3, gL_4, gL_5, gL_6, gL_7, gL_8, gL_9, gL_10, gL_11, gL_12, gL_13, gL_14, gL_15, gA_0, gA_1, gA_2, gA_3, gA_4, gA_5, gA_6, gA_7, gA_8, gA_9, gA_10, gA_11, gA_12, gA_13, gA_14, gA_15, p1_0, p1_1, p1_2, p1_3, p1_4, p1_5, p1_6, p1_7, p1_8, p1_9, p1_10, p1_11, p1_12, p1_13, p1_14, p1_15, p2_0, p2_1, p2_2, p2_3, p2_4, p2_5, p2_6, p2_7, p2_8, p2_9, p2_10, p2_11, p2_12, p2_13, p2_14, p2_15, b01_ok, b_ft, b_tf, b01_e0, b01_e1, lgc_0, not_true_eq_false, not_false_eq_true, K, V, F, Bool.true_eq_false, Bool.false_eq_true, zm1, zm2, zm4, zm6, z10, v_whyNot, v_ref1 X, v_ref2 X, v_ref4 X, v_ref6 X, Bool.or_false, Bool.false_or, Bool.or_true, Bool.true_or, Bool.not_true, Bool.not_false, v_isOne, decide_true, decide_false, h0, h0n, ite_self]
    exact kr (-2) (by simp [why, h0, h0n]) (by decide)
  · have h0n := Int32.not_lt.mp h0
    by_cases h1 : 7 < c
    · have h1n := Int32.not_le.mpr h1
      simp only [e246, s246_0, s246_1, s246_4, s246_7, s246_8, s246_11, s246_12, s246_15, s246_18, s246_19, s246_21, s246_24, oB_some, cl2_i, cl2_r, cl2_l, cl2_u, cl2_s, wd_0, wd_i, wd_r, wd_l, wd_f, ct_i, ct_r, ct_n, ct_f, rf_s, rf_n, tl_s, tl_n, true_and, and_true, eq_self, and_self, Nat.reduceAdd, Nat.reduceLeDiff, Nat.zero_le, Nat.reduceEqDiff, or_true, true_or, false_or, or_false, if_true, if_false, gI_0, gI_1, gI_2, gI_3, gI_4, gI_5, gI_6, gI_7, gI_8, gI_9, gI_10, gI_11, gI_12, gI_13, gI_14, gI_15, gL_0, gL_1, gL_2, gL_3, gL_4, gL_5, gL_6, gL_7, gL_8, gL_9, gL_10, gL_11, gL_12, gL_13, gL_14, gL_15, gA_0, gA_1, gA_2, gA_3, gA_4, gA_5, gA_6, gA_7, gA_8, gA_9, gA_10, gA_11, gA_12, gA_13, gA_14, gA_15, p1_0, p1_1, p1_2, p1_3, p1_4, p1_5, p1_6, p1_7, p1_8, p1_9, p1_10, p1_11, p1_12, p1_13, p1_14, p1_15, p2_0, p2_1, p2_2, p2_3, p2_4, p2_5, p2_6, p2_7, p2_8, p2_9, p2_10, p2_11, p2_12, p2_13, p2_14, p2_15, b01_ok, b_ft, b_tf, b01_e0, b01_e1, lgc_0, not_true_eq_false, not_false_eq_true, K, V, F, Bool.true_eq_false, Bool.false_eq_true, zm1, zm2, zm4, zm6, z10, v_whyNot, v_ref1 X, v_ref2 X, v_ref4 X, v_ref6 X, Bool.or_false, Bool.false_or, Bool.or_true, Bool.true_or, Bool.not_true, Bool.not_false, v_isOne, decide_true, decide_false, h0n, h0, h1, h1n, ite_self]
      exact kr (-2) (by simp [why, h0n, h0, h1, h1n]) (by decide)
    · have h1n := Int32.not_lt.mp h1
      have kk := k (by simp [why, h0n, h0, h1n, h1])
      obtain ⟨j, hj, rfl⟩ := arg_of (n := 7) (M := 7) rfl (by decide) h0 h1
      unfold aKinds at kk
      rw [tc_n (show j < 2 ^ 31 by omega)] at kk
      simp only [e246, s246_0, s246_1, s246_4, s246_7, s246_8, s246_11, s246_12, s246_15, s246_18, s246_19, s246_21, s246_24, oB_some, cl2_i, cl2_r, cl2_l, cl2_u, cl2_s, wd_0, wd_i, wd_r, wd_l, wd_f, ct_i, ct_r, ct_n, ct_f, rf_s, rf_n, tl_s, tl_n, true_and, and_true, eq_self, and_self, Nat.reduceAdd, Nat.reduceLeDiff, Nat.zero_le, Nat.reduceEqDiff, or_true, true_or, false_or, or_false, if_true, if_false, gI_0, gI_1, gI_2, gI_3, gI_4, gI_5, gI_6, gI_7, gI_8, gI_9, gI_10, gI_11, gI_12, gI_13, gI_14, gI_15, gL_0, gL_1, gL_2, gL_3, gL_4, gL_5, gL_6, gL_7, gL_8, gL_9, gL_10, gL_11, gL_12, gL_13, gL_14, gL_15, gA_0, gA_1, gA_2, gA_3, gA_4, gA_5, gA_6, gA_7, gA_8, gA_9, gA_10, gA_11, gA_12, gA_13, gA_14, gA_15, p1_0, p1_1, p1_2, p1_3, p1_4, p1_5, p1_6, p1_7, p1_8, p1_9, p1_10, p1_11, p1_12, p1_13, p1_14, p1_15, p2_0, p2_1, p2_2, p2_3, p2_4, p2_5, p2_6, p2_7, p2_8, p2_9, p2_10, p2_11, p2_12, p2_13, p2_14, p2_15, b01_ok, b_ft, b_tf, b01_e0, b01_e1, lgc_0, not_true_eq_false, not_false_eq_true, K, V, F, Bool.true_eq_false, Bool.false_eq_true, zm1, zm2, zm4, zm6, z10, v_whyNot, v_ref1 X, v_ref2 X, v_ref4 X, v_ref6 X, Bool.or_false, Bool.false_or, Bool.or_true, Bool.true_or, Bool.not_true, Bool.not_false, v_isOne, decide_true, decide_false, h0n, h0, h1n, h1, v_howManyOf X.v g (show j < 2 ^ 31 by omega)]
      exact kk h Fm.rf
set_option maxHeartbeats 8000000 in
theorem x_share {d : Nat} {Q : PQ} {h : HP} {x : Nat} {w : Int32} {S : VS} (X : XQ h x S) (g : Good S) (hy : vy S ≤ 999)
    (kr : ∀ y, why false false false (!chB w) = y → ¬ y = 0 → Q (some (.long (4000000000000000000 - y.toInt64))) (RfC h x y))
    (k : why false false false (!chB w) = 0 → ∀ h', Fm (x + 20) 14 h h' → Q (some (.long (aShare S w))) h') : Ev (d + 4) 231 [.ref x, .int w] h Q := by
  have K := X.1
  unfold XK at K
  have V := X.v.k
  unfold VK at V
  have F := X.2.1.1
  have gn := g.n
  have gl := g.l
  cases hw : chB w with
  | false =>
    simp only [e231, s231_0, s231_1, s231_4, s231_7, s231_10, s231_11, s231_13, s231_16, s231_17, s231_18, s231_19, s231_20, s231_23, s231_26, s231_29, s231_30, s231_31, s231_34, s231_37, s231_38, s231_41, s231_44, s231_45, s231_48, s231_49, s231_50, s231_51, s231_52, s231_53, s231_54, s231_57, oB_some, cl2_i, cl2_r, cl2_l, cl2_u, cl2_s, wd_0, wd_i, wd_r, wd_l, wd_f, ct_i, ct_r, ct_n, ct_f, rf_s, rf_n, tl_s, tl_n, true_and, and_true, eq_self, and_self, Nat.reduceAdd, Nat.reduceLeDiff, Nat.zero_le, Nat.reduceEqDiff, or_true, true_or, false_or, or_false, if_true, if_false, gI_0, gI_1, gI_2, gI_3, gI_4, gI_5, gI_6, gI_7, gI_8, gI_9, gI_10, gI_11, gI_12, gI_13, gI_14, gI_15, gL_0, gL_1, gL_2, gL_3, gL_4, gL_5, gL_6, gL_7, gL_8, gL_9, gL_10, gL_11, gL_12, gL_13, gL_14, gL_15, gA_0, gA_1, gA_2, gA_3, gA_4, gA_5, gA_6, gA_7, gA_8, gA_9, gA_10, gA_11, gA_12, gA_13, gA_14, gA_15, p1_0, p1_1, p1_2, p1_3, p1_4, p1_5, p1_6, p1_7, p1_8, p1_9, p1_10, p1_11, p1_12, p1_13, p1_14, p1_15, p2_0, p2_1, p2_2, p2_3, p2_4, p2_5, p2_6, p2_7, p2_8, p2_9, p2_10, p2_11, p2_12, p2_13, p2_14, p2_15, b01_ok, b_ft, b_tf, b01_e0, b01_e1, lgc_0, not_true_eq_false, not_false_eq_true, K, V, F, Bool.true_eq_false, Bool.false_eq_true, zm1, zm2, zm4, zm6, z10, v_whyNot, v_ref1 X, v_ref2 X, v_ref4 X, v_ref6 X, Bool.or_false, Bool.false_or, Bool.or_true, Bool.true_or, Bool.not_true, Bool.not_false, v_isChoice, hw, ite_self]
    exact kr (-2) (by simp [why, hw]) (by decide)
  | true =>
    have kk := k (by simp [why, hw])
    have sa : sm (anyW S) := by
      unfold anyW
      have : ∀ n, n ≤ vn S → sm (orN (vw S) n) := fun n => by
        induction n with
        | zero => intro _; exact sm_0
        | succ n ih => intro hn; exact sm_or (ih (by omega)) (g.at (by omega)).2.2.2.1
      exact this _ (Nat.le_refl _)
    have n1 := nb_le (vs S)
    have n2 := nb_le (vs S ||| anyW S)
    unfold aShare at kk
    simp only [e231, s231_0, s231_1, s231_4, s231_7, s231_10, s231_11, s231_13, s231_16, s231_17, s231_18, s231_19, s231_20, s231_23, s231_26, s231_29, s231_30, s231_31, s231_34, s231_37, s231_38, s231_41, s231_44, s231_45, s231_48, s231_49, s231_50, s231_51, s231_52, s231_53, s231_54, s231_57, oB_some, cl2_i, cl2_r, cl2_l, cl2_u, cl2_s, wd_0, wd_i, wd_r, wd_l, wd_f, ct_i, ct_r, ct_n, ct_f, rf_s, rf_n, tl_s, tl_n, true_and, and_true, eq_self, and_self, Nat.reduceAdd, Nat.reduceLeDiff, Nat.zero_le, Nat.reduceEqDiff, or_true, true_or, false_or, or_false, if_true, if_false, gI_0, gI_1, gI_2, gI_3, gI_4, gI_5, gI_6, gI_7, gI_8, gI_9, gI_10, gI_11, gI_12, gI_13, gI_14, gI_15, gL_0, gL_1, gL_2, gL_3, gL_4, gL_5, gL_6, gL_7, gL_8, gL_9, gL_10, gL_11, gL_12, gL_13, gL_14, gL_15, gA_0, gA_1, gA_2, gA_3, gA_4, gA_5, gA_6, gA_7, gA_8, gA_9, gA_10, gA_11, gA_12, gA_13, gA_14, gA_15, p1_0, p1_1, p1_2, p1_3, p1_4, p1_5, p1_6, p1_7, p1_8, p1_9, p1_10, p1_11, p1_12, p1_13, p1_14, p1_15, p2_0, p2_1, p2_2, p2_3, p2_4, p2_5, p2_6, p2_7, p2_8, p2_9, p2_10, p2_11, p2_12, p2_13, p2_14, p2_15, b01_ok, b_ft, b_tf, b01_e0, b01_e1, lgc_0, not_true_eq_false, not_false_eq_true, K, V, F, Bool.true_eq_false, Bool.false_eq_true, zm1, zm2, zm4, zm6, z10, v_whyNot, v_ref1 X, v_ref2 X, v_ref4 X, v_ref6 X, Bool.or_false, Bool.false_or, Bool.or_true, Bool.true_or, Bool.not_true, Bool.not_false, v_isChoice, hw, X.v.s, v_bitCount g.s, v_knownByAny X.v g, v_bitCount (sm_or g.s sa), nI_l (show nb (vs S) < 2 ^ 31 by omega), nI_l (show nb (vs S ||| anyW S) < 2 ^ 31 by omega), v_partOf (show nb (vs S) < 2 ^ 40 by omega) (show nb (vs S ||| anyW S) < 2 ^ 40 by omega)]
    exact kk h Fm.rf
