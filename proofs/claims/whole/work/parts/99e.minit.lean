-- written by gen99e.py: the other side as it is made
theorem a8_4 {d : Nat} {Q : PQ} {h : HP} {c s m : Nat} (hk : hkd h m = 16) (hg : m < hnx h) (hc : 1 ≤ c) (hs : 7 ≤ s) : WP d 8 Q (4, [.val (.ref m)], [], h, c, s) = WP d 8 Q (12, [.val (.ref m)], [], bl1 h m 0 2 7, c - 1, s - 7) := by
  have i : ix 7 = 7 := by decide
  have p0 : (0 : Int32) ≤ 7 := by decide
  have le : ∀ (h1 : HP) (k t n : Nat), sR (snw h1 t n) m k (some (hnx h1)) = bl1 h1 m k t n := fun _ _ _ _ => rfl
  simp only [s8_4, s8_5, s8_7, s8_9, oB_some, cl2_i, cl2_r, cl2_l, cl2_u, cl2_s, wd_0, wd_i, wd_r, wd_l, wd_f, ct_i, ct_r, ct_n, ct_f, rf_s, rf_n, tl_s, tl_n, true_and, and_true, eq_self, and_self, Nat.reduceAdd, Nat.reduceLeDiff, Nat.zero_le, Nat.reduceEqDiff, or_true, true_or, false_or, or_false, if_true, if_false, gI_0, gI_1, gI_2, gI_3, gI_4, gI_5, gI_6, gI_7, gI_8, gI_9, gI_10, gI_11, gI_12, gI_13, gI_14, gI_15, gL_0, gL_1, gL_2, gL_3, gL_4, gL_5, gL_6, gL_7, gL_8, gL_9, gL_10, gL_11, gL_12, gL_13, gL_14, gL_15, gA_0, gA_1, gA_2, gA_3, gA_4, gA_5, gA_6, gA_7, gA_8, gA_9, gA_10, gA_11, gA_12, gA_13, gA_14, gA_15, p1_0, p1_1, p1_2, p1_3, p1_4, p1_5, p1_6, p1_7, p1_8, p1_9, p1_10, p1_11, p1_12, p1_13, p1_14, p1_15, p2_0, p2_1, p2_2, p2_3, p2_4, p2_5, p2_6, p2_7, p2_8, p2_9, p2_10, p2_11, p2_12, p2_13, p2_14, p2_15, b01_ok, b_ft, b_tf, b01_e0, b01_e1, lgc_0, not_true_eq_false, not_false_eq_true, hk, i, p0, snw_kd hg, le, hc, hs]
theorem a8_12 {d : Nat} {Q : PQ} {h : HP} {c s m : Nat} (hk : hkd h m = 16) (hg : m < hnx h) (hc : 1 ≤ c) (hs : 6 ≤ s) : WP d 8 Q (12, [.val (.ref m)], [], h, c, s) = WP d 8 Q (20, [.val (.ref m)], [], bl1 h m 1 2 6, c - 1, s - 6) := by
  have i : ix 6 = 6 := by decide
  have p0 : (0 : Int32) ≤ 6 := by decide
  have le : ∀ (h1 : HP) (k t n : Nat), sR (snw h1 t n) m k (some (hnx h1)) = bl1 h1 m k t n := fun _ _ _ _ => rfl
  simp only [s8_12, s8_13, s8_15, s8_17, oB_some, cl2_i, cl2_r, cl2_l, cl2_u, cl2_s, wd_0, wd_i, wd_r, wd_l, wd_f, ct_i, ct_r, ct_n, ct_f, rf_s, rf_n, tl_s, tl_n, true_and, and_true, eq_self, and_self, Nat.reduceAdd, Nat.reduceLeDiff, Nat.zero_le, Nat.reduceEqDiff, or_true, true_or, false_or, or_false, if_true, if_false, gI_0, gI_1, gI_2, gI_3, gI_4, gI_5, gI_6, gI_7, gI_8, gI_9, gI_10, gI_11, gI_12, gI_13, gI_14, gI_15, gL_0, gL_1, gL_2, gL_3, gL_4, gL_5, gL_6, gL_7, gL_8, gL_9, gL_10, gL_11, gL_12, gL_13, gL_14, gL_15, gA_0, gA_1, gA_2, gA_3, gA_4, gA_5, gA_6, gA_7, gA_8, gA_9, gA_10, gA_11, gA_12, gA_13, gA_14, gA_15, p1_0, p1_1, p1_2, p1_3, p1_4, p1_5, p1_6, p1_7, p1_8, p1_9, p1_10, p1_11, p1_12, p1_13, p1_14, p1_15, p2_0, p2_1, p2_2, p2_3, p2_4, p2_5, p2_6, p2_7, p2_8, p2_9, p2_10, p2_11, p2_12, p2_13, p2_14, p2_15, b01_ok, b_ft, b_tf, b01_e0, b01_e1, lgc_0, not_true_eq_false, not_false_eq_true, hk, i, p0, snw_kd hg, le, hc, hs]
theorem a8_20 {d : Nat} {Q : PQ} {h : HP} {c s m : Nat} (hk : hkd h m = 16) (hg : m < hnx h) (hc : 1 ≤ c) (hs : 6 ≤ s) : WP d 8 Q (20, [.val (.ref m)], [], h, c, s) = WP d 8 Q (28, [.val (.ref m)], [], bl1 h m 2 2 6, c - 1, s - 6) := by
  have i : ix 6 = 6 := by decide
  have p0 : (0 : Int32) ≤ 6 := by decide
  have le : ∀ (h1 : HP) (k t n : Nat), sR (snw h1 t n) m k (some (hnx h1)) = bl1 h1 m k t n := fun _ _ _ _ => rfl
  simp only [s8_20, s8_21, s8_23, s8_25, oB_some, cl2_i, cl2_r, cl2_l, cl2_u, cl2_s, wd_0, wd_i, wd_r, wd_l, wd_f, ct_i, ct_r, ct_n, ct_f, rf_s, rf_n, tl_s, tl_n, true_and, and_true, eq_self, and_self, Nat.reduceAdd, Nat.reduceLeDiff, Nat.zero_le, Nat.reduceEqDiff, or_true, true_or, false_or, or_false, if_true, if_false, gI_0, gI_1, gI_2, gI_3, gI_4, gI_5, gI_6, gI_7, gI_8, gI_9, gI_10, gI_11, gI_12, gI_13, gI_14, gI_15, gL_0, gL_1, gL_2, gL_3, gL_4, gL_5, gL_6, gL_7, gL_8, gL_9, gL_10, gL_11, gL_12, gL_13, gL_14, gL_15, gA_0, gA_1, gA_2, gA_3, gA_4, gA_5, gA_6, gA_7, gA_8, gA_9, gA_10, gA_11, gA_12, gA_13, gA_14, gA_15, p1_0, p1_1, p1_2, p1_3, p1_4, p1_5, p1_6, p1_7, p1_8, p1_9, p1_10, p1_11, p1_12, p1_13, p1_14, p1_15, p2_0, p2_1, p2_2, p2_3, p2_4, p2_5, p2_6, p2_7, p2_8, p2_9, p2_10, p2_11, p2_12, p2_13, p2_14, p2_15, b01_ok, b_ft, b_tf, b01_e0, b01_e1, lgc_0, not_true_eq_false, not_false_eq_true, hk, i, p0, snw_kd hg, le, hc, hs]
theorem a8_28 {d : Nat} {Q : PQ} {h : HP} {c s m : Nat} (hk : hkd h m = 16) (hg : m < hnx h) (hc : 1 ≤ c) (hs : 6 ≤ s) : WP d 8 Q (28, [.val (.ref m)], [], h, c, s) = WP d 8 Q (36, [.val (.ref m)], [], bl1 h m 3 2 6, c - 1, s - 6) := by
  have i : ix 6 = 6 := by decide
  have p0 : (0 : Int32) ≤ 6 := by decide
  have le : ∀ (h1 : HP) (k t n : Nat), sR (snw h1 t n) m k (some (hnx h1)) = bl1 h1 m k t n := fun _ _ _ _ => rfl
  simp only [s8_28, s8_29, s8_31, s8_33, oB_some, cl2_i, cl2_r, cl2_l, cl2_u, cl2_s, wd_0, wd_i, wd_r, wd_l, wd_f, ct_i, ct_r, ct_n, ct_f, rf_s, rf_n, tl_s, tl_n, true_and, and_true, eq_self, and_self, Nat.reduceAdd, Nat.reduceLeDiff, Nat.zero_le, Nat.reduceEqDiff, or_true, true_or, false_or, or_false, if_true, if_false, gI_0, gI_1, gI_2, gI_3, gI_4, gI_5, gI_6, gI_7, gI_8, gI_9, gI_10, gI_11, gI_12, gI_13, gI_14, gI_15, gL_0, gL_1, gL_2, gL_3, gL_4, gL_5, gL_6, gL_7, gL_8, gL_9, gL_10, gL_11, gL_12, gL_13, gL_14, gL_15, gA_0, gA_1, gA_2, gA_3, gA_4, gA_5, gA_6, gA_7, gA_8, gA_9, gA_10, gA_11, gA_12, gA_13, gA_14, gA_15, p1_0, p1_1, p1_2, p1_3, p1_4, p1_5, p1_6, p1_7, p1_8, p1_9, p1_10, p1_11, p1_12, p1_13, p1_14, p1_15, p2_0, p2_1, p2_2, p2_3, p2_4, p2_5, p2_6, p2_7, p2_8, p2_9, p2_10, p2_11, p2_12, p2_13, p2_14, p2_15, b01_ok, b_ft, b_tf, b01_e0, b01_e1, lgc_0, not_true_eq_false, not_false_eq_true, hk, i, p0, snw_kd hg, le, hc, hs]
theorem a8_36 {d : Nat} {Q : PQ} {h : HP} {c s m : Nat} (hk : hkd h m = 16) (hg : m < hnx h) (hc : 1 ≤ c) (hs : 24 ≤ s) : WP d 8 Q (36, [.val (.ref m)], [], h, c, s) = WP d 8 Q (44, [.val (.ref m)], [], bl1 h m 4 2 24, c - 1, s - 24) := by
  have i : ix 24 = 24 := by decide
  have p0 : (0 : Int32) ≤ 24 := by decide
  have le : ∀ (h1 : HP) (k t n : Nat), sR (snw h1 t n) m k (some (hnx h1)) = bl1 h1 m k t n := fun _ _ _ _ => rfl
  simp only [s8_36, s8_37, s8_39, s8_41, oB_some, cl2_i, cl2_r, cl2_l, cl2_u, cl2_s, wd_0, wd_i, wd_r, wd_l, wd_f, ct_i, ct_r, ct_n, ct_f, rf_s, rf_n, tl_s, tl_n, true_and, and_true, eq_self, and_self, Nat.reduceAdd, Nat.reduceLeDiff, Nat.zero_le, Nat.reduceEqDiff, or_true, true_or, false_or, or_false, if_true, if_false, gI_0, gI_1, gI_2, gI_3, gI_4, gI_5, gI_6, gI_7, gI_8, gI_9, gI_10, gI_11, gI_12, gI_13, gI_14, gI_15, gL_0, gL_1, gL_2, gL_3, gL_4, gL_5, gL_6, gL_7, gL_8, gL_9, gL_10, gL_11, gL_12, gL_13, gL_14, gL_15, gA_0, gA_1, gA_2, gA_3, gA_4, gA_5, gA_6, gA_7, gA_8, gA_9, gA_10, gA_11, gA_12, gA_13, gA_14, gA_15, p1_0, p1_1, p1_2, p1_3, p1_4, p1_5, p1_6, p1_7, p1_8, p1_9, p1_10, p1_11, p1_12, p1_13, p1_14, p1_15, p2_0, p2_1, p2_2, p2_3, p2_4, p2_5, p2_6, p2_7, p2_8, p2_9, p2_10, p2_11, p2_12, p2_13, p2_14, p2_15, b01_ok, b_ft, b_tf, b01_e0, b01_e1, lgc_0, not_true_eq_false, not_false_eq_true, hk, i, p0, snw_kd hg, le, hc, hs]
theorem a8_44 {d : Nat} {Q : PQ} {h : HP} {c s m : Nat} (hk : hkd h m = 16) (hg : m < hnx h) (hc : 1 ≤ c) (hs : 24 ≤ s) : WP d 8 Q (44, [.val (.ref m)], [], h, c, s) = WP d 8 Q (52, [.val (.ref m)], [], bl1 h m 5 2 24, c - 1, s - 24) := by
  have i : ix 24 = 24 := by decide
  have p0 : (0 : Int32) ≤ 24 := by decide
  have le : ∀ (h1 : HP) (k t n : Nat), sR (snw h1 t n) m k (some (hnx h1)) = bl1 h1 m k t n := fun _ _ _ _ => rfl
  simp only [s8_44, s8_45, s8_47, s8_49, oB_some, cl2_i, cl2_r, cl2_l, cl2_u, cl2_s, wd_0, wd_i, wd_r, wd_l, wd_f, ct_i, ct_r, ct_n, ct_f, rf_s, rf_n, tl_s, tl_n, true_and, and_true, eq_self, and_self, Nat.reduceAdd, Nat.reduceLeDiff, Nat.zero_le, Nat.reduceEqDiff, or_true, true_or, false_or, or_false, if_true, if_false, gI_0, gI_1, gI_2, gI_3, gI_4, gI_5, gI_6, gI_7, gI_8, gI_9, gI_10, gI_11, gI_12, gI_13, gI_14, gI_15, gL_0, gL_1, gL_2, gL_3, gL_4, gL_5, gL_6, gL_7, gL_8, gL_9, gL_10, gL_11, gL_12, gL_13, gL_14, gL_15, gA_0, gA_1, gA_2, gA_3, gA_4, gA_5, gA_6, gA_7, gA_8, gA_9, gA_10, gA_11, gA_12, gA_13, gA_14, gA_15, p1_0, p1_1, p1_2, p1_3, p1_4, p1_5, p1_6, p1_7, p1_8, p1_9, p1_10, p1_11, p1_12, p1_13, p1_14, p1_15, p2_0, p2_1, p2_2, p2_3, p2_4, p2_5, p2_6, p2_7, p2_8, p2_9, p2_10, p2_11, p2_12, p2_13, p2_14, p2_15, b01_ok, b_ft, b_tf, b01_e0, b01_e1, lgc_0, not_true_eq_false, not_false_eq_true, hk, i, p0, snw_kd hg, le, hc, hs]
theorem a8_52 {d : Nat} {Q : PQ} {h : HP} {c s m : Nat} (hk : hkd h m = 16) (hg : m < hnx h) (hc : 1 ≤ c) (hs : 24 ≤ s) : WP d 8 Q (52, [.val (.ref m)], [], h, c, s) = WP d 8 Q (60, [.val (.ref m)], [], bl1 h m 6 2 24, c - 1, s - 24) := by
  have i : ix 24 = 24 := by decide
  have p0 : (0 : Int32) ≤ 24 := by decide
  have le : ∀ (h1 : HP) (k t n : Nat), sR (snw h1 t n) m k (some (hnx h1)) = bl1 h1 m k t n := fun _ _ _ _ => rfl
  simp only [s8_52, s8_53, s8_55, s8_57, oB_some, cl2_i, cl2_r, cl2_l, cl2_u, cl2_s, wd_0, wd_i, wd_r, wd_l, wd_f, ct_i, ct_r, ct_n, ct_f, rf_s, rf_n, tl_s, tl_n, true_and, and_true, eq_self, and_self, Nat.reduceAdd, Nat.reduceLeDiff, Nat.zero_le, Nat.reduceEqDiff, or_true, true_or, false_or, or_false, if_true, if_false, gI_0, gI_1, gI_2, gI_3, gI_4, gI_5, gI_6, gI_7, gI_8, gI_9, gI_10, gI_11, gI_12, gI_13, gI_14, gI_15, gL_0, gL_1, gL_2, gL_3, gL_4, gL_5, gL_6, gL_7, gL_8, gL_9, gL_10, gL_11, gL_12, gL_13, gL_14, gL_15, gA_0, gA_1, gA_2, gA_3, gA_4, gA_5, gA_6, gA_7, gA_8, gA_9, gA_10, gA_11, gA_12, gA_13, gA_14, gA_15, p1_0, p1_1, p1_2, p1_3, p1_4, p1_5, p1_6, p1_7, p1_8, p1_9, p1_10, p1_11, p1_12, p1_13, p1_14, p1_15, p2_0, p2_1, p2_2, p2_3, p2_4, p2_5, p2_6, p2_7, p2_8, p2_9, p2_10, p2_11, p2_12, p2_13, p2_14, p2_15, b01_ok, b_ft, b_tf, b01_e0, b01_e1, lgc_0, not_true_eq_false, not_false_eq_true, hk, i, p0, snw_kd hg, le, hc, hs]
theorem a8_60 {d : Nat} {Q : PQ} {h : HP} {c s m : Nat} (hk : hkd h m = 16) (hg : m < hnx h) (hc : 1 ≤ c) (hs : 24 ≤ s) : WP d 8 Q (60, [.val (.ref m)], [], h, c, s) = WP d 8 Q (68, [.val (.ref m)], [], bl1 h m 7 2 24, c - 1, s - 24) := by
  have i : ix 24 = 24 := by decide
  have p0 : (0 : Int32) ≤ 24 := by decide
  have le : ∀ (h1 : HP) (k t n : Nat), sR (snw h1 t n) m k (some (hnx h1)) = bl1 h1 m k t n := fun _ _ _ _ => rfl
  simp only [s8_60, s8_61, s8_63, s8_65, oB_some, cl2_i, cl2_r, cl2_l, cl2_u, cl2_s, wd_0, wd_i, wd_r, wd_l, wd_f, ct_i, ct_r, ct_n, ct_f, rf_s, rf_n, tl_s, tl_n, true_and, and_true, eq_self, and_self, Nat.reduceAdd, Nat.reduceLeDiff, Nat.zero_le, Nat.reduceEqDiff, or_true, true_or, false_or, or_false, if_true, if_false, gI_0, gI_1, gI_2, gI_3, gI_4, gI_5, gI_6, gI_7, gI_8, gI_9, gI_10, gI_11, gI_12, gI_13, gI_14, gI_15, gL_0, gL_1, gL_2, gL_3, gL_4, gL_5, gL_6, gL_7, gL_8, gL_9, gL_10, gL_11, gL_12, gL_13, gL_14, gL_15, gA_0, gA_1, gA_2, gA_3, gA_4, gA_5, gA_6, gA_7, gA_8, gA_9, gA_10, gA_11, gA_12, gA_13, gA_14, gA_15, p1_0, p1_1, p1_2, p1_3, p1_4, p1_5, p1_6, p1_7, p1_8, p1_9, p1_10, p1_11, p1_12, p1_13, p1_14, p1_15, p2_0, p2_1, p2_2, p2_3, p2_4, p2_5, p2_6, p2_7, p2_8, p2_9, p2_10, p2_11, p2_12, p2_13, p2_14, p2_15, b01_ok, b_ft, b_tf, b01_e0, b01_e1, lgc_0, not_true_eq_false, not_false_eq_true, hk, i, p0, snw_kd hg, le, hc, hs]
theorem a8_68 {d : Nat} {Q : PQ} {h : HP} {c s m : Nat} (hk : hkd h m = 16) (hg : m < hnx h) (hc : 1 ≤ c) (hs : 6 ≤ s) : WP d 8 Q (68, [.val (.ref m)], [], h, c, s) = WP d 8 Q (76, [.val (.ref m)], [], bl1 h m 8 3 6, c - 1, s - 6) := by
  have i : ix 6 = 6 := by decide
  have p0 : (0 : Int32) ≤ 6 := by decide
  have le : ∀ (h1 : HP) (k t n : Nat), sR (snw h1 t n) m k (some (hnx h1)) = bl1 h1 m k t n := fun _ _ _ _ => rfl
  simp only [s8_68, s8_69, s8_71, s8_73, oB_some, cl2_i, cl2_r, cl2_l, cl2_u, cl2_s, wd_0, wd_i, wd_r, wd_l, wd_f, ct_i, ct_r, ct_n, ct_f, rf_s, rf_n, tl_s, tl_n, true_and, and_true, eq_self, and_self, Nat.reduceAdd, Nat.reduceLeDiff, Nat.zero_le, Nat.reduceEqDiff, or_true, true_or, false_or, or_false, if_true, if_false, gI_0, gI_1, gI_2, gI_3, gI_4, gI_5, gI_6, gI_7, gI_8, gI_9, gI_10, gI_11, gI_12, gI_13, gI_14, gI_15, gL_0, gL_1, gL_2, gL_3, gL_4, gL_5, gL_6, gL_7, gL_8, gL_9, gL_10, gL_11, gL_12, gL_13, gL_14, gL_15, gA_0, gA_1, gA_2, gA_3, gA_4, gA_5, gA_6, gA_7, gA_8, gA_9, gA_10, gA_11, gA_12, gA_13, gA_14, gA_15, p1_0, p1_1, p1_2, p1_3, p1_4, p1_5, p1_6, p1_7, p1_8, p1_9, p1_10, p1_11, p1_12, p1_13, p1_14, p1_15, p2_0, p2_1, p2_2, p2_3, p2_4, p2_5, p2_6, p2_7, p2_8, p2_9, p2_10, p2_11, p2_12, p2_13, p2_14, p2_15, b01_ok, b_ft, b_tf, b01_e0, b01_e1, lgc_0, not_true_eq_false, not_false_eq_true, hk, i, p0, snw_kd hg, le, hc, hs]
theorem a8_76 {d : Nat} {Q : PQ} {h : HP} {c s m : Nat} (hk : hkd h m = 16) (hg : m < hnx h) (hc : 1 ≤ c) (hs : 6 ≤ s) : WP d 8 Q (76, [.val (.ref m)], [], h, c, s) = WP d 8 Q (84, [.val (.ref m)], [], bl1 h m 9 3 6, c - 1, s - 6) := by
  have i : ix 6 = 6 := by decide
  have p0 : (0 : Int32) ≤ 6 := by decide
  have le : ∀ (h1 : HP) (k t n : Nat), sR (snw h1 t n) m k (some (hnx h1)) = bl1 h1 m k t n := fun _ _ _ _ => rfl
  simp only [s8_76, s8_77, s8_79, s8_81, oB_some, cl2_i, cl2_r, cl2_l, cl2_u, cl2_s, wd_0, wd_i, wd_r, wd_l, wd_f, ct_i, ct_r, ct_n, ct_f, rf_s, rf_n, tl_s, tl_n, true_and, and_true, eq_self, and_self, Nat.reduceAdd, Nat.reduceLeDiff, Nat.zero_le, Nat.reduceEqDiff, or_true, true_or, false_or, or_false, if_true, if_false, gI_0, gI_1, gI_2, gI_3, gI_4, gI_5, gI_6, gI_7, gI_8, gI_9, gI_10, gI_11, gI_12, gI_13, gI_14, gI_15, gL_0, gL_1, gL_2, gL_3, gL_4, gL_5, gL_6, gL_7, gL_8, gL_9, gL_10, gL_11, gL_12, gL_13, gL_14, gL_15, gA_0, gA_1, gA_2, gA_3, gA_4, gA_5, gA_6, gA_7, gA_8, gA_9, gA_10, gA_11, gA_12, gA_13, gA_14, gA_15, p1_0, p1_1, p1_2, p1_3, p1_4, p1_5, p1_6, p1_7, p1_8, p1_9, p1_10, p1_11, p1_12, p1_13, p1_14, p1_15, p2_0, p2_1, p2_2, p2_3, p2_4, p2_5, p2_6, p2_7, p2_8, p2_9, p2_10, p2_11, p2_12, p2_13, p2_14, p2_15, b01_ok, b_ft, b_tf, b01_e0, b01_e1, lgc_0, not_true_eq_false, not_false_eq_true, hk, i, p0, snw_kd hg, le, hc, hs]
theorem a8_84 {d : Nat} {Q : PQ} {h : HP} {c s m : Nat} (hk : hkd h m = 16) (hg : m < hnx h) (hc : 1 ≤ c) (hs : 24 ≤ s) : WP d 8 Q (84, [.val (.ref m)], [], h, c, s) = WP d 8 Q (92, [.val (.ref m)], [], bl1 h m 10 3 24, c - 1, s - 24) := by
  have i : ix 24 = 24 := by decide
  have p0 : (0 : Int32) ≤ 24 := by decide
  have le : ∀ (h1 : HP) (k t n : Nat), sR (snw h1 t n) m k (some (hnx h1)) = bl1 h1 m k t n := fun _ _ _ _ => rfl
  simp only [s8_84, s8_85, s8_87, s8_89, oB_some, cl2_i, cl2_r, cl2_l, cl2_u, cl2_s, wd_0, wd_i, wd_r, wd_l, wd_f, ct_i, ct_r, ct_n, ct_f, rf_s, rf_n, tl_s, tl_n, true_and, and_true, eq_self, and_self, Nat.reduceAdd, Nat.reduceLeDiff, Nat.zero_le, Nat.reduceEqDiff, or_true, true_or, false_or, or_false, if_true, if_false, gI_0, gI_1, gI_2, gI_3, gI_4, gI_5, gI_6, gI_7, gI_8, gI_9, gI_10, gI_11, gI_12, gI_13, gI_14, gI_15, gL_0, gL_1, gL_2, gL_3, gL_4, gL_5, gL_6, gL_7, gL_8, gL_9, gL_10, gL_11, gL_12, gL_13, gL_14, gL_15, gA_0, gA_1, gA_2, gA_3, gA_4, gA_5, gA_6, gA_7, gA_8, gA_9, gA_10, gA_11, gA_12, gA_13, gA_14, gA_15, p1_0, p1_1, p1_2, p1_3, p1_4, p1_5, p1_6, p1_7, p1_8, p1_9, p1_10, p1_11, p1_12, p1_13, p1_14, p1_15, p2_0, p2_1, p2_2, p2_3, p2_4, p2_5, p2_6, p2_7, p2_8, p2_9, p2_10, p2_11, p2_12, p2_13, p2_14, p2_15, b01_ok, b_ft, b_tf, b01_e0, b01_e1, lgc_0, not_true_eq_false, not_false_eq_true, hk, i, p0, snw_kd hg, le, hc, hs]
theorem a8_92 {d : Nat} {Q : PQ} {h : HP} {c s m : Nat} (hk : hkd h m = 16) (hg : m < hnx h) (hc : 1 ≤ c) (hs : 96 ≤ s) : WP d 8 Q (92, [.val (.ref m)], [], h, c, s) = WP d 8 Q (100, [.val (.ref m)], [], bl1 h m 23 2 96, c - 1, s - 96) := by
  have i : ix 96 = 96 := by decide
  have p0 : (0 : Int32) ≤ 96 := by decide
  have le : ∀ (h1 : HP) (k t n : Nat), sR (snw h1 t n) m k (some (hnx h1)) = bl1 h1 m k t n := fun _ _ _ _ => rfl
  simp only [s8_92, s8_93, s8_95, s8_97, oB_some, cl2_i, cl2_r, cl2_l, cl2_u, cl2_s, wd_0, wd_i, wd_r, wd_l, wd_f, ct_i, ct_r, ct_n, ct_f, rf_s, rf_n, tl_s, tl_n, true_and, and_true, eq_self, and_self, Nat.reduceAdd, Nat.reduceLeDiff, Nat.zero_le, Nat.reduceEqDiff, or_true, true_or, false_or, or_false, if_true, if_false, gI_0, gI_1, gI_2, gI_3, gI_4, gI_5, gI_6, gI_7, gI_8, gI_9, gI_10, gI_11, gI_12, gI_13, gI_14, gI_15, gL_0, gL_1, gL_2, gL_3, gL_4, gL_5, gL_6, gL_7, gL_8, gL_9, gL_10, gL_11, gL_12, gL_13, gL_14, gL_15, gA_0, gA_1, gA_2, gA_3, gA_4, gA_5, gA_6, gA_7, gA_8, gA_9, gA_10, gA_11, gA_12, gA_13, gA_14, gA_15, p1_0, p1_1, p1_2, p1_3, p1_4, p1_5, p1_6, p1_7, p1_8, p1_9, p1_10, p1_11, p1_12, p1_13, p1_14, p1_15, p2_0, p2_1, p2_2, p2_3, p2_4, p2_5, p2_6, p2_7, p2_8, p2_9, p2_10, p2_11, p2_12, p2_13, p2_14, p2_15, b01_ok, b_ft, b_tf, b01_e0, b01_e1, lgc_0, not_true_eq_false, not_false_eq_true, hk, i, p0, snw_kd hg, le, hc, hs]
theorem a8_100 {d : Nat} {Q : PQ} {h : HP} {c s m : Nat} (hk : hkd h m = 16) (hg : m < hnx h) (hc : 1 ≤ c) (hs : 33 ≤ s) : WP d 8 Q (100, [.val (.ref m)], [], h, c, s) = WP d 8 Q (108, [.val (.ref m)], [], bl1 h m 24 2 33, c - 1, s - 33) := by
  have i : ix 33 = 33 := by decide
  have p0 : (0 : Int32) ≤ 33 := by decide
  have le : ∀ (h1 : HP) (k t n : Nat), sR (snw h1 t n) m k (some (hnx h1)) = bl1 h1 m k t n := fun _ _ _ _ => rfl
  simp only [s8_100, s8_101, s8_103, s8_105, oB_some, cl2_i, cl2_r, cl2_l, cl2_u, cl2_s, wd_0, wd_i, wd_r, wd_l, wd_f, ct_i, ct_r, ct_n, ct_f, rf_s, rf_n, tl_s, tl_n, true_and, and_true, eq_self, and_self, Nat.reduceAdd, Nat.reduceLeDiff, Nat.zero_le, Nat.reduceEqDiff, or_true, true_or, false_or, or_false, if_true, if_false, gI_0, gI_1, gI_2, gI_3, gI_4, gI_5, gI_6, gI_7, gI_8, gI_9, gI_10, gI_11, gI_12, gI_13, gI_14, gI_15, gL_0, gL_1, gL_2, gL_3, gL_4, gL_5, gL_6, gL_7, gL_8, gL_9, gL_10, gL_11, gL_12, gL_13, gL_14, gL_15, gA_0, gA_1, gA_2, gA_3, gA_4, gA_5, gA_6, gA_7, gA_8, gA_9, gA_10, gA_11, gA_12, gA_13, gA_14, gA_15, p1_0, p1_1, p1_2, p1_3, p1_4, p1_5, p1_6, p1_7, p1_8, p1_9, p1_10, p1_11, p1_12, p1_13, p1_14, p1_15, p2_0, p2_1, p2_2, p2_3, p2_4, p2_5, p2_6, p2_7, p2_8, p2_9, p2_10, p2_11, p2_12, p2_13, p2_14, p2_15, b01_ok, b_ft, b_tf, b01_e0, b01_e1, lgc_0, not_true_eq_false, not_false_eq_true, hk, i, p0, snw_kd hg, le, hc, hs]
theorem a8_108 {d : Nat} {Q : PQ} {h : HP} {c s m : Nat} (hk : hkd h m = 16) (hg : m < hnx h) (hc : 1 ≤ c) (hs : 33 ≤ s) : WP d 8 Q (108, [.val (.ref m)], [], h, c, s) = WP d 8 Q (116, [.val (.ref m)], [], bl1 h m 25 2 33, c - 1, s - 33) := by
  have i : ix 33 = 33 := by decide
  have p0 : (0 : Int32) ≤ 33 := by decide
  have le : ∀ (h1 : HP) (k t n : Nat), sR (snw h1 t n) m k (some (hnx h1)) = bl1 h1 m k t n := fun _ _ _ _ => rfl
  simp only [s8_108, s8_109, s8_111, s8_113, oB_some, cl2_i, cl2_r, cl2_l, cl2_u, cl2_s, wd_0, wd_i, wd_r, wd_l, wd_f, ct_i, ct_r, ct_n, ct_f, rf_s, rf_n, tl_s, tl_n, true_and, and_true, eq_self, and_self, Nat.reduceAdd, Nat.reduceLeDiff, Nat.zero_le, Nat.reduceEqDiff, or_true, true_or, false_or, or_false, if_true, if_false, gI_0, gI_1, gI_2, gI_3, gI_4, gI_5, gI_6, gI_7, gI_8, gI_9, gI_10, gI_11, gI_12, gI_13, gI_14, gI_15, gL_0, gL_1, gL_2, gL_3, gL_4, gL_5, gL_6, gL_7, gL_8, gL_9, gL_10, gL_11, gL_12, gL_13, gL_14, gL_15, gA_0, gA_1, gA_2, gA_3, gA_4, gA_5, gA_6, gA_7, gA_8, gA_9, gA_10, gA_11, gA_12, gA_13, gA_14, gA_15, p1_0, p1_1, p1_2, p1_3, p1_4, p1_5, p1_6, p1_7, p1_8, p1_9, p1_10, p1_11, p1_12, p1_13, p1_14, p1_15, p2_0, p2_1, p2_2, p2_3, p2_4, p2_5, p2_6, p2_7, p2_8, p2_9, p2_10, p2_11, p2_12, p2_13, p2_14, p2_15, b01_ok, b_ft, b_tf, b01_e0, b01_e1, lgc_0, not_true_eq_false, not_false_eq_true, hk, i, p0, snw_kd hg, le, hc, hs]
theorem a8_116 {d : Nat} {Q : PQ} {h : HP} {c s m : Nat} (hk : hkd h m = 16) (hg : m < hnx h) (hc : 1 ≤ c) (hs : 66 ≤ s) : WP d 8 Q (116, [.val (.ref m)], [], h, c, s) = WP d 8 Q (124, [.val (.ref m)], [], bl1 h m 26 2 66, c - 1, s - 66) := by
  have i : ix 66 = 66 := by decide
  have p0 : (0 : Int32) ≤ 66 := by decide
  have le : ∀ (h1 : HP) (k t n : Nat), sR (snw h1 t n) m k (some (hnx h1)) = bl1 h1 m k t n := fun _ _ _ _ => rfl
  simp only [s8_116, s8_117, s8_119, s8_121, oB_some, cl2_i, cl2_r, cl2_l, cl2_u, cl2_s, wd_0, wd_i, wd_r, wd_l, wd_f, ct_i, ct_r, ct_n, ct_f, rf_s, rf_n, tl_s, tl_n, true_and, and_true, eq_self, and_self, Nat.reduceAdd, Nat.reduceLeDiff, Nat.zero_le, Nat.reduceEqDiff, or_true, true_or, false_or, or_false, if_true, if_false, gI_0, gI_1, gI_2, gI_3, gI_4, gI_5, gI_6, gI_7, gI_8, gI_9, gI_10, gI_11, gI_12, gI_13, gI_14, gI_15, gL_0, gL_1, gL_2, gL_3, gL_4, gL_5, gL_6, gL_7, gL_8, gL_9, gL_10, gL_11, gL_12, gL_13, gL_14, gL_15, gA_0, gA_1, gA_2, gA_3, gA_4, gA_5, gA_6, gA_7, gA_8, gA_9, gA_10, gA_11, gA_12, gA_13, gA_14, gA_15, p1_0, p1_1, p1_2, p1_3, p1_4, p1_5, p1_6, p1_7, p1_8, p1_9, p1_10, p1_11, p1_12, p1_13, p1_14, p1_15, p2_0, p2_1, p2_2, p2_3, p2_4, p2_5, p2_6, p2_7, p2_8, p2_9, p2_10, p2_11, p2_12, p2_13, p2_14, p2_15, b01_ok, b_ft, b_tf, b01_e0, b01_e1, lgc_0, not_true_eq_false, not_false_eq_true, hk, i, p0, snw_kd hg, le, hc, hs]
theorem a8_124 {d : Nat} {Q : PQ} {h : HP} {c s m : Nat} (hk : hkd h m = 16) (hg : m < hnx h) (hc : 1 ≤ c) (hs : 1320 ≤ s) : WP d 8 Q (124, [.val (.ref m)], [], h, c, s) = WP d 8 Q (133, [.val (.ref m)], [], bl1 h m 31 2 1320, c - 1, s - 1320) := by
  have i : ix 1320 = 1320 := by decide
  have p0 : (0 : Int32) ≤ 1320 := by decide
  have le : ∀ (h1 : HP) (k t n : Nat), sR (snw h1 t n) m k (some (hnx h1)) = bl1 h1 m k t n := fun _ _ _ _ => rfl
  simp only [s8_124, s8_125, s8_128, s8_130, oB_some, cl2_i, cl2_r, cl2_l, cl2_u, cl2_s, wd_0, wd_i, wd_r, wd_l, wd_f, ct_i, ct_r, ct_n, ct_f, rf_s, rf_n, tl_s, tl_n, true_and, and_true, eq_self, and_self, Nat.reduceAdd, Nat.reduceLeDiff, Nat.zero_le, Nat.reduceEqDiff, or_true, true_or, false_or, or_false, if_true, if_false, gI_0, gI_1, gI_2, gI_3, gI_4, gI_5, gI_6, gI_7, gI_8, gI_9, gI_10, gI_11, gI_12, gI_13, gI_14, gI_15, gL_0, gL_1, gL_2, gL_3, gL_4, gL_5, gL_6, gL_7, gL_8, gL_9, gL_10, gL_11, gL_12, gL_13, gL_14, gL_15, gA_0, gA_1, gA_2, gA_3, gA_4, gA_5, gA_6, gA_7, gA_8, gA_9, gA_10, gA_11, gA_12, gA_13, gA_14, gA_15, p1_0, p1_1, p1_2, p1_3, p1_4, p1_5, p1_6, p1_7, p1_8, p1_9, p1_10, p1_11, p1_12, p1_13, p1_14, p1_15, p2_0, p2_1, p2_2, p2_3, p2_4, p2_5, p2_6, p2_7, p2_8, p2_9, p2_10, p2_11, p2_12, p2_13, p2_14, p2_15, b01_ok, b_ft, b_tf, b01_e0, b01_e1, lgc_0, not_true_eq_false, not_false_eq_true, hk, i, p0, snw_kd hg, le, hc, hs]
theorem a8_133 {d : Nat} {Q : PQ} {h : HP} {c s m : Nat} (hk : hkd h m = 16) (hg : m < hnx h) (hc : 1 ≤ c) (hs : 418 ≤ s) : WP d 8 Q (133, [.val (.ref m)], [], h, c, s) = WP d 8 Q (142, [.val (.ref m)], [], bl1 h m 32 3 418, c - 1, s - 418) := by
  have i : ix 418 = 418 := by decide
  have p0 : (0 : Int32) ≤ 418 := by decide
  have le : ∀ (h1 : HP) (k t n : Nat), sR (snw h1 t n) m k (some (hnx h1)) = bl1 h1 m k t n := fun _ _ _ _ => rfl
  simp only [s8_133, s8_134, s8_137, s8_139, oB_some, cl2_i, cl2_r, cl2_l, cl2_u, cl2_s, wd_0, wd_i, wd_r, wd_l, wd_f, ct_i, ct_r, ct_n, ct_f, rf_s, rf_n, tl_s, tl_n, true_and, and_true, eq_self, and_self, Nat.reduceAdd, Nat.reduceLeDiff, Nat.zero_le, Nat.reduceEqDiff, or_true, true_or, false_or, or_false, if_true, if_false, gI_0, gI_1, gI_2, gI_3, gI_4, gI_5, gI_6, gI_7, gI_8, gI_9, gI_10, gI_11, gI_12, gI_13, gI_14, gI_15, gL_0, gL_1, gL_2, gL_3, gL_4, gL_5, gL_6, gL_7, gL_8, gL_9, gL_10, gL_11, gL_12, gL_13, gL_14, gL_15, gA_0, gA_1, gA_2, gA_3, gA_4, gA_5, gA_6, gA_7, gA_8, gA_9, gA_10, gA_11, gA_12, gA_13, gA_14, gA_15, p1_0, p1_1, p1_2, p1_3, p1_4, p1_5, p1_6, p1_7, p1_8, p1_9, p1_10, p1_11, p1_12, p1_13, p1_14, p1_15, p2_0, p2_1, p2_2, p2_3, p2_4, p2_5, p2_6, p2_7, p2_8, p2_9, p2_10, p2_11, p2_12, p2_13, p2_14, p2_15, b01_ok, b_ft, b_tf, b01_e0, b01_e1, lgc_0, not_true_eq_false, not_false_eq_true, hk, i, p0, snw_kd hg, le, hc, hs]
theorem a8_142 {d : Nat} {Q : PQ} {h : HP} {c s m : Nat} (hk : hkd h m = 16) (hg : m < hnx h) (hc : 1 ≤ c) (hs : 12 ≤ s) : WP d 8 Q (142, [.val (.ref m)], [], h, c, s) = WP d 8 Q (150, [.val (.ref m)], [], bl1 h m 39 2 12, c - 1, s - 12) := by
  have i : ix 12 = 12 := by decide
  have p0 : (0 : Int32) ≤ 12 := by decide
  have le : ∀ (h1 : HP) (k t n : Nat), sR (snw h1 t n) m k (some (hnx h1)) = bl1 h1 m k t n := fun _ _ _ _ => rfl
  simp only [s8_142, s8_143, s8_145, s8_147, oB_some, cl2_i, cl2_r, cl2_l, cl2_u, cl2_s, wd_0, wd_i, wd_r, wd_l, wd_f, ct_i, ct_r, ct_n, ct_f, rf_s, rf_n, tl_s, tl_n, true_and, and_true, eq_self, and_self, Nat.reduceAdd, Nat.reduceLeDiff, Nat.zero_le, Nat.reduceEqDiff, or_true, true_or, false_or, or_false, if_true, if_false, gI_0, gI_1, gI_2, gI_3, gI_4, gI_5, gI_6, gI_7, gI_8, gI_9, gI_10, gI_11, gI_12, gI_13, gI_14, gI_15, gL_0, gL_1, gL_2, gL_3, gL_4, gL_5, gL_6, gL_7, gL_8, gL_9, gL_10, gL_11, gL_12, gL_13, gL_14, gL_15, gA_0, gA_1, gA_2, gA_3, gA_4, gA_5, gA_6, gA_7, gA_8, gA_9, gA_10, gA_11, gA_12, gA_13, gA_14, gA_15, p1_0, p1_1, p1_2, p1_3, p1_4, p1_5, p1_6, p1_7, p1_8, p1_9, p1_10, p1_11, p1_12, p1_13, p1_14, p1_15, p2_0, p2_1, p2_2, p2_3, p2_4, p2_5, p2_6, p2_7, p2_8, p2_9, p2_10, p2_11, p2_12, p2_13, p2_14, p2_15, b01_ok, b_ft, b_tf, b01_e0, b01_e1, lgc_0, not_true_eq_false, not_false_eq_true, hk, i, p0, snw_kd hg, le, hc, hs]
theorem a8_150 {d : Nat} {Q : PQ} {h : HP} {c s m : Nat} (hk : hkd h m = 16) (hg : m < hnx h) (hc : 1 ≤ c) (hs : 8 ≤ s) : WP d 8 Q (150, [.val (.ref m)], [], h, c, s) = WP d 8 Q (158, [.val (.ref m)], [], bl1 h m 41 2 8, c - 1, s - 8) := by
  have i : ix 8 = 8 := by decide
  have p0 : (0 : Int32) ≤ 8 := by decide
  have le : ∀ (h1 : HP) (k t n : Nat), sR (snw h1 t n) m k (some (hnx h1)) = bl1 h1 m k t n := fun _ _ _ _ => rfl
  simp only [s8_150, s8_151, s8_153, s8_155, oB_some, cl2_i, cl2_r, cl2_l, cl2_u, cl2_s, wd_0, wd_i, wd_r, wd_l, wd_f, ct_i, ct_r, ct_n, ct_f, rf_s, rf_n, tl_s, tl_n, true_and, and_true, eq_self, and_self, Nat.reduceAdd, Nat.reduceLeDiff, Nat.zero_le, Nat.reduceEqDiff, or_true, true_or, false_or, or_false, if_true, if_false, gI_0, gI_1, gI_2, gI_3, gI_4, gI_5, gI_6, gI_7, gI_8, gI_9, gI_10, gI_11, gI_12, gI_13, gI_14, gI_15, gL_0, gL_1, gL_2, gL_3, gL_4, gL_5, gL_6, gL_7, gL_8, gL_9, gL_10, gL_11, gL_12, gL_13, gL_14, gL_15, gA_0, gA_1, gA_2, gA_3, gA_4, gA_5, gA_6, gA_7, gA_8, gA_9, gA_10, gA_11, gA_12, gA_13, gA_14, gA_15, p1_0, p1_1, p1_2, p1_3, p1_4, p1_5, p1_6, p1_7, p1_8, p1_9, p1_10, p1_11, p1_12, p1_13, p1_14, p1_15, p2_0, p2_1, p2_2, p2_3, p2_4, p2_5, p2_6, p2_7, p2_8, p2_9, p2_10, p2_11, p2_12, p2_13, p2_14, p2_15, b01_ok, b_ft, b_tf, b01_e0, b01_e1, lgc_0, not_true_eq_false, not_false_eq_true, hk, i, p0, snw_kd hg, le, hc, hs]
abbrev LM : List (Nat × Nat × Nat) := [(0, 2, 7), (1, 2, 6), (2, 2, 6), (3, 2, 6), (4, 2, 24), (5, 2, 24), (6, 2, 24), (7, 2, 24), (8, 3, 6), (9, 3, 6), (10, 3, 24), (23, 2, 96), (24, 2, 33), (25, 2, 33), (26, 2, 66), (31, 2, 1320), (32, 3, 418), (39, 2, 12), (41, 2, 8)]
set_option maxHeartbeats 4000000 in
theorem v_mInit {d : Nat} {Q : PQ} {h : HP} {m : Nat} (hk : hkd h m = 16) (hg : m < hnx h) : Ev (d + 1) 8 [.ref m] h Q = Q none (sI (bld m LM h) m 13 6) := by
  simp only [e8, s8_0, s8_1, oB_some, cl2_i, cl2_r, cl2_l, cl2_u, cl2_s, wd_0, wd_i, wd_r, wd_l, wd_f, ct_i, ct_r, ct_n, ct_f, rf_s, rf_n, tl_s, tl_n, true_and, and_true, eq_self, and_self, Nat.reduceAdd, Nat.reduceLeDiff, Nat.zero_le, Nat.reduceEqDiff, or_true, true_or, false_or, or_false, if_true, if_false, gI_0, gI_1, gI_2, gI_3, gI_4, gI_5, gI_6, gI_7, gI_8, gI_9, gI_10, gI_11, gI_12, gI_13, gI_14, gI_15, gL_0, gL_1, gL_2, gL_3, gL_4, gL_5, gL_6, gL_7, gL_8, gL_9, gL_10, gL_11, gL_12, gL_13, gL_14, gL_15, gA_0, gA_1, gA_2, gA_3, gA_4, gA_5, gA_6, gA_7, gA_8, gA_9, gA_10, gA_11, gA_12, gA_13, gA_14, gA_15, p1_0, p1_1, p1_2, p1_3, p1_4, p1_5, p1_6, p1_7, p1_8, p1_9, p1_10, p1_11, p1_12, p1_13, p1_14, p1_15, p2_0, p2_1, p2_2, p2_3, p2_4, p2_5, p2_6, p2_7, p2_8, p2_9, p2_10, p2_11, p2_12, p2_13, p2_14, p2_15]
  rw [a8_4 hk hg (by decide) (by decide)]
  have g1_ : m < hnx (bl1 h m 0 2 7) := by rw [bl1_nx]; omega
  have k1_ : hkd (bl1 h m 0 2 7) m = 16 := (bl1_kd hg).trans hk
  obtain ⟨h1, y1⟩ : ∃ z, z = bl1 h m 0 2 7 := ⟨_, rfl⟩
  rw [← y1] at g1_ k1_ ⊢
  rw [a8_12 k1_ g1_ (by decide) (by decide)]
  have g2_ : m < hnx (bl1 h1 m 1 2 6) := by rw [bl1_nx]; omega
  have k2_ : hkd (bl1 h1 m 1 2 6) m = 16 := (bl1_kd g1_).trans k1_
  obtain ⟨h2, y2⟩ : ∃ z, z = bl1 h1 m 1 2 6 := ⟨_, rfl⟩
  rw [← y2] at g2_ k2_ ⊢
  rw [a8_20 k2_ g2_ (by decide) (by decide)]
  have g3_ : m < hnx (bl1 h2 m 2 2 6) := by rw [bl1_nx]; omega
  have k3_ : hkd (bl1 h2 m 2 2 6) m = 16 := (bl1_kd g2_).trans k2_
  obtain ⟨h3, y3⟩ : ∃ z, z = bl1 h2 m 2 2 6 := ⟨_, rfl⟩
  rw [← y3] at g3_ k3_ ⊢
  rw [a8_28 k3_ g3_ (by decide) (by decide)]
  have g4_ : m < hnx (bl1 h3 m 3 2 6) := by rw [bl1_nx]; omega
  have k4_ : hkd (bl1 h3 m 3 2 6) m = 16 := (bl1_kd g3_).trans k3_
  obtain ⟨h4, y4⟩ : ∃ z, z = bl1 h3 m 3 2 6 := ⟨_, rfl⟩
  rw [← y4] at g4_ k4_ ⊢
  rw [a8_36 k4_ g4_ (by decide) (by decide)]
  have g5_ : m < hnx (bl1 h4 m 4 2 24) := by rw [bl1_nx]; omega
  have k5_ : hkd (bl1 h4 m 4 2 24) m = 16 := (bl1_kd g4_).trans k4_
  obtain ⟨h5, y5⟩ : ∃ z, z = bl1 h4 m 4 2 24 := ⟨_, rfl⟩
  rw [← y5] at g5_ k5_ ⊢
  rw [a8_44 k5_ g5_ (by decide) (by decide)]
  have g6_ : m < hnx (bl1 h5 m 5 2 24) := by rw [bl1_nx]; omega
  have k6_ : hkd (bl1 h5 m 5 2 24) m = 16 := (bl1_kd g5_).trans k5_
  obtain ⟨h6, y6⟩ : ∃ z, z = bl1 h5 m 5 2 24 := ⟨_, rfl⟩
  rw [← y6] at g6_ k6_ ⊢
  rw [a8_52 k6_ g6_ (by decide) (by decide)]
  have g7_ : m < hnx (bl1 h6 m 6 2 24) := by rw [bl1_nx]; omega
  have k7_ : hkd (bl1 h6 m 6 2 24) m = 16 := (bl1_kd g6_).trans k6_
  obtain ⟨h7, y7⟩ : ∃ z, z = bl1 h6 m 6 2 24 := ⟨_, rfl⟩
  rw [← y7] at g7_ k7_ ⊢
  rw [a8_60 k7_ g7_ (by decide) (by decide)]
  have g8_ : m < hnx (bl1 h7 m 7 2 24) := by rw [bl1_nx]; omega
  have k8_ : hkd (bl1 h7 m 7 2 24) m = 16 := (bl1_kd g7_).trans k7_
  obtain ⟨h8, y8⟩ : ∃ z, z = bl1 h7 m 7 2 24 := ⟨_, rfl⟩
  rw [← y8] at g8_ k8_ ⊢
  rw [a8_68 k8_ g8_ (by decide) (by decide)]
  have g9_ : m < hnx (bl1 h8 m 8 3 6) := by rw [bl1_nx]; omega
  have k9_ : hkd (bl1 h8 m 8 3 6) m = 16 := (bl1_kd g8_).trans k8_
  obtain ⟨h9, y9⟩ : ∃ z, z = bl1 h8 m 8 3 6 := ⟨_, rfl⟩
  rw [← y9] at g9_ k9_ ⊢
  rw [a8_76 k9_ g9_ (by decide) (by decide)]
  have g10_ : m < hnx (bl1 h9 m 9 3 6) := by rw [bl1_nx]; omega
  have k10_ : hkd (bl1 h9 m 9 3 6) m = 16 := (bl1_kd g9_).trans k9_
  obtain ⟨h10, y10⟩ : ∃ z, z = bl1 h9 m 9 3 6 := ⟨_, rfl⟩
  rw [← y10] at g10_ k10_ ⊢
  rw [a8_84 k10_ g10_ (by decide) (by decide)]
  have g11_ : m < hnx (bl1 h10 m 10 3 24) := by rw [bl1_nx]; omega
  have k11_ : hkd (bl1 h10 m 10 3 24) m = 16 := (bl1_kd g10_).trans k10_
  obtain ⟨h11, y11⟩ : ∃ z, z = bl1 h10 m 10 3 24 := ⟨_, rfl⟩
  rw [← y11] at g11_ k11_ ⊢
  rw [a8_92 k11_ g11_ (by decide) (by decide)]
  have g12_ : m < hnx (bl1 h11 m 23 2 96) := by rw [bl1_nx]; omega
  have k12_ : hkd (bl1 h11 m 23 2 96) m = 16 := (bl1_kd g11_).trans k11_
  obtain ⟨h12, y12⟩ : ∃ z, z = bl1 h11 m 23 2 96 := ⟨_, rfl⟩
  rw [← y12] at g12_ k12_ ⊢
  rw [a8_100 k12_ g12_ (by decide) (by decide)]
  have g13_ : m < hnx (bl1 h12 m 24 2 33) := by rw [bl1_nx]; omega
  have k13_ : hkd (bl1 h12 m 24 2 33) m = 16 := (bl1_kd g12_).trans k12_
  obtain ⟨h13, y13⟩ : ∃ z, z = bl1 h12 m 24 2 33 := ⟨_, rfl⟩
  rw [← y13] at g13_ k13_ ⊢
  rw [a8_108 k13_ g13_ (by decide) (by decide)]
  have g14_ : m < hnx (bl1 h13 m 25 2 33) := by rw [bl1_nx]; omega
  have k14_ : hkd (bl1 h13 m 25 2 33) m = 16 := (bl1_kd g13_).trans k13_
  obtain ⟨h14, y14⟩ : ∃ z, z = bl1 h13 m 25 2 33 := ⟨_, rfl⟩
  rw [← y14] at g14_ k14_ ⊢
  rw [a8_116 k14_ g14_ (by decide) (by decide)]
  have g15_ : m < hnx (bl1 h14 m 26 2 66) := by rw [bl1_nx]; omega
  have k15_ : hkd (bl1 h14 m 26 2 66) m = 16 := (bl1_kd g14_).trans k14_
  obtain ⟨h15, y15⟩ : ∃ z, z = bl1 h14 m 26 2 66 := ⟨_, rfl⟩
  rw [← y15] at g15_ k15_ ⊢
  rw [a8_124 k15_ g15_ (by decide) (by decide)]
  have g16_ : m < hnx (bl1 h15 m 31 2 1320) := by rw [bl1_nx]; omega
  have k16_ : hkd (bl1 h15 m 31 2 1320) m = 16 := (bl1_kd g15_).trans k15_
  obtain ⟨h16, y16⟩ : ∃ z, z = bl1 h15 m 31 2 1320 := ⟨_, rfl⟩
  rw [← y16] at g16_ k16_ ⊢
  rw [a8_133 k16_ g16_ (by decide) (by decide)]
  have g17_ : m < hnx (bl1 h16 m 32 3 418) := by rw [bl1_nx]; omega
  have k17_ : hkd (bl1 h16 m 32 3 418) m = 16 := (bl1_kd g16_).trans k16_
  obtain ⟨h17, y17⟩ : ∃ z, z = bl1 h16 m 32 3 418 := ⟨_, rfl⟩
  rw [← y17] at g17_ k17_ ⊢
  rw [a8_142 k17_ g17_ (by decide) (by decide)]
  have g18_ : m < hnx (bl1 h17 m 39 2 12) := by rw [bl1_nx]; omega
  have k18_ : hkd (bl1 h17 m 39 2 12) m = 16 := (bl1_kd g17_).trans k17_
  obtain ⟨h18, y18⟩ : ∃ z, z = bl1 h17 m 39 2 12 := ⟨_, rfl⟩
  rw [← y18] at g18_ k18_ ⊢
  rw [a8_150 k18_ g18_ (by decide) (by decide)]
  have g19_ : m < hnx (bl1 h18 m 41 2 8) := by rw [bl1_nx]; omega
  have k19_ : hkd (bl1 h18 m 41 2 8) m = 16 := (bl1_kd g18_).trans k18_
  obtain ⟨h19, y19⟩ : ∃ z, z = bl1 h18 m 41 2 8 := ⟨_, rfl⟩
  rw [← y19] at g19_ k19_ ⊢
  simp only [s8_158, s8_159, s8_161, s8_164, oB_some, cl2_i, cl2_r, cl2_l, cl2_u, cl2_s, wd_0, wd_i, wd_r, wd_l, wd_f, ct_i, ct_r, ct_n, ct_f, rf_s, rf_n, tl_s, tl_n, true_and, and_true, eq_self, and_self, Nat.reduceAdd, Nat.reduceLeDiff, Nat.zero_le, Nat.reduceEqDiff, or_true, true_or, false_or, or_false, if_true, if_false, gI_0, gI_1, gI_2, gI_3, gI_4, gI_5, gI_6, gI_7, gI_8, gI_9, gI_10, gI_11, gI_12, gI_13, gI_14, gI_15, gL_0, gL_1, gL_2, gL_3, gL_4, gL_5, gL_6, gL_7, gL_8, gL_9, gL_10, gL_11, gL_12, gL_13, gL_14, gL_15, gA_0, gA_1, gA_2, gA_3, gA_4, gA_5, gA_6, gA_7, gA_8, gA_9, gA_10, gA_11, gA_12, gA_13, gA_14, gA_15, p1_0, p1_1, p1_2, p1_3, p1_4, p1_5, p1_6, p1_7, p1_8, p1_9, p1_10, p1_11, p1_12, p1_13, p1_14, p1_15, p2_0, p2_1, p2_2, p2_3, p2_4, p2_5, p2_6, p2_7, p2_8, p2_9, p2_10, p2_11, p2_12, p2_13, p2_14, p2_15, b01_ok, b_ft, b_tf, b01_e0, b01_e1, lgc_0, not_true_eq_false, not_false_eq_true, k19_]
  rw [y19, y18, y17, y16, y15, y14, y13, y12, y11, y10, y9, y8, y7, y6, y5, y4, y3, y2, y1]
  rfl
