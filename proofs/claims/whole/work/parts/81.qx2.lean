-- the one side's questions by the row, and damp nights
set_option maxHeartbeats 4000000 in
theorem v_rowTellsLeads {d len k f : Nat} {r : Nat → Nat} {Q : PQ} {h : HP} {x : Nat} {S : VS} (X : XQ h x S) (g : Good S) (hy : vy S ≤ 999) (R : XR h x r len) (hk : k < 8) (hf : f < 10) : Ev (d + 3) 193 [.ref x, .int (nI k), .int (nI f)] h Q = Q (some (.int (b01 (ledA r k f (vy S) len 0)))) h := by
  have K := X.1
  unfold XK at K
  have V := X.v.k
  unfold VK at V
  obtain ⟨⟨w1, w2, w3, w4⟩, w5⟩ := R
  have loop : ∀ (m i : Nat), i + m = len → WP (d + 2) 193 Q (2, [.val (.ref x), .val (.int (nI k)), .val (.int (nI f)), .val (.int (nI i))], [], h, 0, 0) = Q (some (.int (b01 (ledA r k f (vy S) m i)))) h := by
    intro m
    induction m with
    | zero =>
      intro i hi
      have hin : i = len := by omega
      rw [hin, s193_2]
      simp only [s193_0, s193_1, s193_3, s193_4, s193_7, s193_10, s193_11, s193_14, s193_15, s193_16, s193_17, s193_18, s193_19, s193_22, s193_25, s193_26, s193_27, s193_28, s193_29, s193_32, s193_35, s193_36, s193_37, s193_40, s193_43, s193_44, oB_some, cl2_i, cl2_r, cl2_l, cl2_u, cl2_s, wd_0, wd_i, wd_r, wd_l, wd_f, ct_i, ct_r, ct_n, ct_f, rf_s, rf_n, tl_s, tl_n, true_and, and_true, eq_self, and_self, Nat.reduceAdd, Nat.reduceLeDiff, Nat.zero_le, Nat.reduceEqDiff, or_true, true_or, false_or, or_false, if_true, if_false, gI_0, gI_1, gI_2, gI_3, gI_4, gI_5, gI_6, gI_7, gI_8, gI_9, gI_10, gI_11, gI_12, gI_13, gI_14, gI_15, gL_0, gL_1, gL_2, gL_3, gL_4, gL_5, gL_6, gL_7, gL_8, gL_9, gL_10, gL_11, gL_12, gL_13, gL_14, gL_15, gA_0, gA_1, gA_2, gA_3, gA_4, gA_5, gA_6, gA_7, gA_8, gA_9, gA_10, gA_11, gA_12, gA_13, gA_14, gA_15, p1_0, p1_1, p1_2, p1_3, p1_4, p1_5, p1_6, p1_7, p1_8, p1_9, p1_10, p1_11, p1_12, p1_13, p1_14, p1_15, p2_0, p2_1, p2_2, p2_3, p2_4, p2_5, p2_6, p2_7, p2_8, p2_9, p2_10, p2_11, p2_12, p2_13, p2_14, p2_15, b01_ok, b_ft, b_tf, b01_e0, b01_e1, lgc_0, not_true_eq_false, not_false_eq_true, K, w5, Int32.le_refl]
      rfl
    | succ m ih =>
      intro i hi
      have i31 : i < 2 ^ 31 := by omega
      have i12 : i < 12 := by omega
      have z : ¬ nI len ≤ nI i := nI_ge (by omega) (by omega)
      obtain ⟨w6, w7⟩ := w4 i (by omega)
      have ll := @lead_le k f (vy S + 1 + i) hf
      rw [s193_2, ledA_s]
      simp only [s193_0, s193_1, s193_3, s193_4, s193_7, s193_10, s193_11, s193_14, s193_15, s193_16, s193_17, s193_18, s193_19, s193_22, s193_25, s193_26, s193_27, s193_28, s193_29, s193_32, s193_35, s193_36, s193_37, s193_40, s193_43, s193_44, oB_some, cl2_i, cl2_r, cl2_l, cl2_u, cl2_s, wd_0, wd_i, wd_r, wd_l, wd_f, ct_i, ct_r, ct_n, ct_f, rf_s, rf_n, tl_s, tl_n, true_and, and_true, eq_self, and_self, Nat.reduceAdd, Nat.reduceLeDiff, Nat.zero_le, Nat.reduceEqDiff, or_true, true_or, false_or, or_false, if_true, if_false, gI_0, gI_1, gI_2, gI_3, gI_4, gI_5, gI_6, gI_7, gI_8, gI_9, gI_10, gI_11, gI_12, gI_13, gI_14, gI_15, gL_0, gL_1, gL_2, gL_3, gL_4, gL_5, gL_6, gL_7, gL_8, gL_9, gL_10, gL_11, gL_12, gL_13, gL_14, gL_15, gA_0, gA_1, gA_2, gA_3, gA_4, gA_5, gA_6, gA_7, gA_8, gA_9, gA_10, gA_11, gA_12, gA_13, gA_14, gA_15, p1_0, p1_1, p1_2, p1_3, p1_4, p1_5, p1_6, p1_7, p1_8, p1_9, p1_10, p1_11, p1_12, p1_13, p1_14, p1_15, p2_0, p2_1, p2_2, p2_3, p2_4, p2_5, p2_6, p2_7, p2_8, p2_9, p2_10, p2_11, p2_12, p2_13, p2_14, p2_15, b01_ok, b_ft, b_tf, b01_e0, b01_e1, lgc_0, not_true_eq_false, not_false_eq_true, K, V, w1, w2, w5, z, w6, ix_nI i31, nI_pos' i31, i12, X.v.y, nI_1, nI_add, v_leadOf hk hf (show vy S + 1 + i < 2 ^ 31 by omega), eqP (show r i < 2 ^ 31 by omega) (show leadN k f (vy S + 1 + i) < 2 ^ 31 by omega)]
      by_cases e : r i = leadN k f (vy S + 1 + i)
      · rw [if_pos e, if_pos e]
        exact ih (i + 1) (by omega)
      · rw [if_neg e, if_neg e]
        rfl
  simp only [e193, s193_0, s193_1, oB_some, cl2_i, cl2_r, cl2_l, cl2_u, cl2_s, wd_0, wd_i, wd_r, wd_l, wd_f, ct_i, ct_r, ct_n, ct_f, rf_s, rf_n, tl_s, tl_n, true_and, and_true, eq_self, and_self, Nat.reduceAdd, Nat.reduceLeDiff, Nat.zero_le, Nat.reduceEqDiff, or_true, true_or, false_or, or_false, if_true, if_false, gI_0, gI_1, gI_2, gI_3, gI_4, gI_5, gI_6, gI_7, gI_8, gI_9, gI_10, gI_11, gI_12, gI_13, gI_14, gI_15, gL_0, gL_1, gL_2, gL_3, gL_4, gL_5, gL_6, gL_7, gL_8, gL_9, gL_10, gL_11, gL_12, gL_13, gL_14, gL_15, gA_0, gA_1, gA_2, gA_3, gA_4, gA_5, gA_6, gA_7, gA_8, gA_9, gA_10, gA_11, gA_12, gA_13, gA_14, gA_15, p1_0, p1_1, p1_2, p1_3, p1_4, p1_5, p1_6, p1_7, p1_8, p1_9, p1_10, p1_11, p1_12, p1_13, p1_14, p1_15, p2_0, p2_1, p2_2, p2_3, p2_4, p2_5, p2_6, p2_7, p2_8, p2_9, p2_10, p2_11, p2_12, p2_13, p2_14, p2_15, b01_ok, b_ft, b_tf, b01_e0, b01_e1, lgc_0, not_true_eq_false, not_false_eq_true]
  exact loop len 0 (by omega)
set_option maxHeartbeats 4000000 in
theorem v_kindsByRow {d len f : Nat} {r : Nat → Nat} {Q : PQ} {h : HP} {x : Nat} {S : VS} (X : XQ h x S) (g : Good S) (hy : vy S ≤ 999) (R : XR h x r len) (hf : f < 10) : Ev (d + 4) 192 [.ref x, .int (nI f)] h Q = Q (some (.int (nI (bitN (fun k => ledA r k f (vy S) len 0) 8)))) h := by
  have K := X.1
  unfold XK at K
  have loop : ∀ (m j : Nat), j + m = 8 → WP (d + 3) 192 Q (4, [.val (.ref x), .val (.int (nI f)), .val (.int (nI (bitN (fun k => ledA r k f (vy S) len 0) j))), .val (.int (nI j))], [], h, 0, 0) = Q (some (.int (nI (bitN (fun k => ledA r k f (vy S) len 0) 8)))) h := by
    intro m
    induction m with
    | zero =>
      intro j hj
      obtain rfl : j = 8 := by omega
      rw [s192_4]
      simp only [s192_0, s192_1, s192_2, s192_3, s192_5, s192_7, s192_10, s192_11, s192_12, s192_13, s192_16, s192_19, s192_20, s192_21, s192_22, s192_23, s192_24, s192_25, s192_28, s192_31, s192_32, oB_some, cl2_i, cl2_r, cl2_l, cl2_u, cl2_s, wd_0, wd_i, wd_r, wd_l, wd_f, ct_i, ct_r, ct_n, ct_f, rf_s, rf_n, tl_s, tl_n, true_and, and_true, eq_self, and_self, Nat.reduceAdd, Nat.reduceLeDiff, Nat.zero_le, Nat.reduceEqDiff, or_true, true_or, false_or, or_false, if_true, if_false, gI_0, gI_1, gI_2, gI_3, gI_4, gI_5, gI_6, gI_7, gI_8, gI_9, gI_10, gI_11, gI_12, gI_13, gI_14, gI_15, gL_0, gL_1, gL_2, gL_3, gL_4, gL_5, gL_6, gL_7, gL_8, gL_9, gL_10, gL_11, gL_12, gL_13, gL_14, gL_15, gA_0, gA_1, gA_2, gA_3, gA_4, gA_5, gA_6, gA_7, gA_8, gA_9, gA_10, gA_11, gA_12, gA_13, gA_14, gA_15, p1_0, p1_1, p1_2, p1_3, p1_4, p1_5, p1_6, p1_7, p1_8, p1_9, p1_10, p1_11, p1_12, p1_13, p1_14, p1_15, p2_0, p2_1, p2_2, p2_3, p2_4, p2_5, p2_6, p2_7, p2_8, p2_9, p2_10, p2_11, p2_12, p2_13, p2_14, p2_15, b01_ok, b_ft, b_tf, b01_e0, b01_e1, lgc_0, not_true_eq_false, not_false_eq_true]
      rw [if_pos (by decide)]
    | succ m ih =>
      intro j hj
      have z : ¬ (8 : Int32) ≤ nI j := nI_ge (b := 8) (by omega) (by decide)
      have i1 := ih (j + 1) (by omega)
      rw [bitN_s] at i1
      rw [s192_4]
      simp only [s192_0, s192_1, s192_2, s192_3, s192_5, s192_7, s192_10, s192_11, s192_12, s192_13, s192_16, s192_19, s192_20, s192_21, s192_22, s192_23, s192_24, s192_25, s192_28, s192_31, s192_32, oB_some, cl2_i, cl2_r, cl2_l, cl2_u, cl2_s, wd_0, wd_i, wd_r, wd_l, wd_f, ct_i, ct_r, ct_n, ct_f, rf_s, rf_n, tl_s, tl_n, true_and, and_true, eq_self, and_self, Nat.reduceAdd, Nat.reduceLeDiff, Nat.zero_le, Nat.reduceEqDiff, or_true, true_or, false_or, or_false, if_true, if_false, gI_0, gI_1, gI_2, gI_3, gI_4, gI_5, gI_6, gI_7, gI_8, gI_9, gI_10, gI_11, gI_12, gI_13, gI_14, gI_15, gL_0, gL_1, gL_2, gL_3, gL_4, gL_5, gL_6, gL_7, gL_8, gL_9, gL_10, gL_11, gL_12, gL_13, gL_14, gL_15, gA_0, gA_1, gA_2, gA_3, gA_4, gA_5, gA_6, gA_7, gA_8, gA_9, gA_10, gA_11, gA_12, gA_13, gA_14, gA_15, p1_0, p1_1, p1_2, p1_3, p1_4, p1_5, p1_6, p1_7, p1_8, p1_9, p1_10, p1_11, p1_12, p1_13, p1_14, p1_15, p2_0, p2_1, p2_2, p2_3, p2_4, p2_5, p2_6, p2_7, p2_8, p2_9, p2_10, p2_11, p2_12, p2_13, p2_14, p2_15, b01_ok, b_ft, b_tf, b01_e0, b01_e1, lgc_0, not_true_eq_false, not_false_eq_true, K, z, v_rowTellsLeads X g hy R (show j < 8 by omega) hf, shl1 j (by omega), nI_or, nI_1]
      by_cases e : ledA r j f (vy S) len 0 = true
      · rw [if_neg (by rw [e]; decide)]
        rw [if_pos e] at i1
        exact i1
      · rw [if_pos (by simpa using e)]
        rw [if_neg e] at i1
        exact i1
  simp only [e192, s192_0, s192_1, s192_2, s192_3, oB_some, cl2_i, cl2_r, cl2_l, cl2_u, cl2_s, wd_0, wd_i, wd_r, wd_l, wd_f, ct_i, ct_r, ct_n, ct_f, rf_s, rf_n, tl_s, tl_n, true_and, and_true, eq_self, and_self, Nat.reduceAdd, Nat.reduceLeDiff, Nat.zero_le, Nat.reduceEqDiff, or_true, true_or, false_or, or_false, if_true, if_false, gI_0, gI_1, gI_2, gI_3, gI_4, gI_5, gI_6, gI_7, gI_8, gI_9, gI_10, gI_11, gI_12, gI_13, gI_14, gI_15, gL_0, gL_1, gL_2, gL_3, gL_4, gL_5, gL_6, gL_7, gL_8, gL_9, gL_10, gL_11, gL_12, gL_13, gL_14, gL_15, gA_0, gA_1, gA_2, gA_3, gA_4, gA_5, gA_6, gA_7, gA_8, gA_9, gA_10, gA_11, gA_12, gA_13, gA_14, gA_15, p1_0, p1_1, p1_2, p1_3, p1_4, p1_5, p1_6, p1_7, p1_8, p1_9, p1_10, p1_11, p1_12, p1_13, p1_14, p1_15, p2_0, p2_1, p2_2, p2_3, p2_4, p2_5, p2_6, p2_7, p2_8, p2_9, p2_10, p2_11, p2_12, p2_13, p2_14, p2_15, b01_ok, b_ft, b_tf, b01_e0, b01_e1, lgc_0, not_true_eq_false, not_false_eq_true]
  exact loop 8 0 (by omega)
set_option maxHeartbeats 4000000 in
theorem v_figuresByRow {d len k : Nat} {r : Nat → Nat} {Q : PQ} {h : HP} {x : Nat} {S : VS} (X : XQ h x S) (g : Good S) (hy : vy S ≤ 999) (R : XR h x r len) (hk : k < 8) : Ev (d + 4) 194 [.ref x, .int (nI k)] h Q = Q (some (.int (nI (bitN (fun f => ledA r k f (vy S) len 0) 10)))) h := by
  have K := X.1
  unfold XK at K
  have loop : ∀ (m j : Nat), j + m = 10 → WP (d + 3) 194 Q (4, [.val (.ref x), .val (.int (nI k)), .val (.int (nI (bitN (fun f => ledA r k f (vy S) len 0) j))), .val (.int (nI j))], [], h, 0, 0) = Q (some (.int (nI (bitN (fun f => ledA r k f (vy S) len 0) 10)))) h := by
    intro m
    induction m with
    | zero =>
      intro j hj
      obtain rfl : j = 10 := by omega
      rw [s194_4]
      simp only [s194_0, s194_1, s194_2, s194_3, s194_5, s194_7, s194_10, s194_11, s194_12, s194_13, s194_16, s194_19, s194_20, s194_21, s194_22, s194_23, s194_24, s194_25, s194_28, s194_31, s194_32, oB_some, cl2_i, cl2_r, cl2_l, cl2_u, cl2_s, wd_0, wd_i, wd_r, wd_l, wd_f, ct_i, ct_r, ct_n, ct_f, rf_s, rf_n, tl_s, tl_n, true_and, and_true, eq_self, and_self, Nat.reduceAdd, Nat.reduceLeDiff, Nat.zero_le, Nat.reduceEqDiff, or_true, true_or, false_or, or_false, if_true, if_false, gI_0, gI_1, gI_2, gI_3, gI_4, gI_5, gI_6, gI_7, gI_8, gI_9, gI_10, gI_11, gI_12, gI_13, gI_14, gI_15, gL_0, gL_1, gL_2, gL_3, gL_4, gL_5, gL_6, gL_7, gL_8, gL_9, gL_10, gL_11, gL_12, gL_13, gL_14, gL_15, gA_0, gA_1, gA_2, gA_3, gA_4, gA_5, gA_6, gA_7, gA_8, gA_9, gA_10, gA_11, gA_12, gA_13, gA_14, gA_15, p1_0, p1_1, p1_2, p1_3, p1_4, p1_5, p1_6, p1_7, p1_8, p1_9, p1_10, p1_11, p1_12, p1_13, p1_14, p1_15, p2_0, p2_1, p2_2, p2_3, p2_4, p2_5, p2_6, p2_7, p2_8, p2_9, p2_10, p2_11, p2_12, p2_13, p2_14, p2_15, b01_ok, b_ft, b_tf, b01_e0, b01_e1, lgc_0, not_true_eq_false, not_false_eq_true]
      rw [if_pos (by decide)]
    | succ m ih =>
      intro j hj
      have z : ¬ (9 : Int32) < nI j := nI_nlt (a := 9) (by omega) (by decide)
      have i1 := ih (j + 1) (by omega)
      rw [bitN_s] at i1
      rw [s194_4]
      simp only [s194_0, s194_1, s194_2, s194_3, s194_5, s194_7, s194_10, s194_11, s194_12, s194_13, s194_16, s194_19, s194_20, s194_21, s194_22, s194_23, s194_24, s194_25, s194_28, s194_31, s194_32, oB_some, cl2_i, cl2_r, cl2_l, cl2_u, cl2_s, wd_0, wd_i, wd_r, wd_l, wd_f, ct_i, ct_r, ct_n, ct_f, rf_s, rf_n, tl_s, tl_n, true_and, and_true, eq_self, and_self, Nat.reduceAdd, Nat.reduceLeDiff, Nat.zero_le, Nat.reduceEqDiff, or_true, true_or, false_or, or_false, if_true, if_false, gI_0, gI_1, gI_2, gI_3, gI_4, gI_5, gI_6, gI_7, gI_8, gI_9, gI_10, gI_11, gI_12, gI_13, gI_14, gI_15, gL_0, gL_1, gL_2, gL_3, gL_4, gL_5, gL_6, gL_7, gL_8, gL_9, gL_10, gL_11, gL_12, gL_13, gL_14, gL_15, gA_0, gA_1, gA_2, gA_3, gA_4, gA_5, gA_6, gA_7, gA_8, gA_9, gA_10, gA_11, gA_12, gA_13, gA_14, gA_15, p1_0, p1_1, p1_2, p1_3, p1_4, p1_5, p1_6, p1_7, p1_8, p1_9, p1_10, p1_11, p1_12, p1_13, p1_14, p1_15, p2_0, p2_1, p2_2, p2_3, p2_4, p2_5, p2_6, p2_7, p2_8, p2_9, p2_10, p2_11, p2_12, p2_13, p2_14, p2_15, b01_ok, b_ft, b_tf, b01_e0, b01_e1, lgc_0, not_true_eq_false, not_false_eq_true, K, z, v_rowTellsLeads X g hy R hk (show j < 10 by omega), shl1 j (by omega), nI_or, nI_1]
      by_cases e : ledA r k j (vy S) len 0 = true
      · rw [if_neg (by rw [e]; decide)]
        rw [if_pos e] at i1
        exact i1
      · rw [if_pos (by simpa using e)]
        rw [if_neg e] at i1
        exact i1
  simp only [e194, s194_0, s194_1, s194_2, s194_3, oB_some, cl2_i, cl2_r, cl2_l, cl2_u, cl2_s, wd_0, wd_i, wd_r, wd_l, wd_f, ct_i, ct_r, ct_n, ct_f, rf_s, rf_n, tl_s, tl_n, true_and, and_true, eq_self, and_self, Nat.reduceAdd, Nat.reduceLeDiff, Nat.zero_le, Nat.reduceEqDiff, or_true, true_or, false_or, or_false, if_true, if_false, gI_0, gI_1, gI_2, gI_3, gI_4, gI_5, gI_6, gI_7, gI_8, gI_9, gI_10, gI_11, gI_12, gI_13, gI_14, gI_15, gL_0, gL_1, gL_2, gL_3, gL_4, gL_5, gL_6, gL_7, gL_8, gL_9, gL_10, gL_11, gL_12, gL_13, gL_14, gL_15, gA_0, gA_1, gA_2, gA_3, gA_4, gA_5, gA_6, gA_7, gA_8, gA_9, gA_10, gA_11, gA_12, gA_13, gA_14, gA_15, p1_0, p1_1, p1_2, p1_3, p1_4, p1_5, p1_6, p1_7, p1_8, p1_9, p1_10, p1_11, p1_12, p1_13, p1_14, p1_15, p2_0, p2_1, p2_2, p2_3, p2_4, p2_5, p2_6, p2_7, p2_8, p2_9, p2_10, p2_11, p2_12, p2_13, p2_14, p2_15, b01_ok, b_ft, b_tf, b01_e0, b01_e1, lgc_0, not_true_eq_false, not_false_eq_true]
  exact loop 10 0 (by omega)
set_option maxHeartbeats 8000000 in
theorem x_whatKind {d len : Nat} {r : Nat → Nat} {Q : PQ} {h : HP} {x : Nat} {p w : Int32} {S : VS} (X : XQ h x S) (g : Good S) (hy : vy S ≤ 999) (Rw : XR h x r len)
    (kr : ∀ y, why (!isPI S p) false false (!chB w) = y → ¬ y = 0 → Q (some (.int y)) (RfC h x y))
    (k : why (!isPI S p) false false (!chB w) = 0 → Q (some (.int (aWhatKind S r len p w))) h) : Ev (d + 5) 191 [.ref x, .int p, .int w] h Q := by
  have K := X.1
  unfold XK at K
  have V := X.v.k
  unfold VK at V
  have gn := g.n
  cases hp : isPI S p with
  | false =>
    simp only [e191, s191_0, s191_1, s191_2, s191_5, s191_8, s191_9, s191_12, s191_13, s191_14, s191_15, s191_16, s191_19, s191_22, s191_23, s191_26, s191_27, s191_30, s191_31, s191_32, s191_35, s191_36, s191_37, s191_40, s191_41, s191_42, s191_45, s191_46, s191_47, s191_50, s191_53, s191_54, s191_55, s191_58, s191_61, s191_62, s191_63, s191_66, s191_69, s191_70, s191_71, s191_74, oB_some, cl2_i, cl2_r, cl2_l, cl2_u, cl2_s, wd_0, wd_i, wd_r, wd_l, wd_f, ct_i, ct_r, ct_n, ct_f, rf_s, rf_n, tl_s, tl_n, true_and, and_true, eq_self, and_self, Nat.reduceAdd, Nat.reduceLeDiff, Nat.zero_le, Nat.reduceEqDiff, or_true, true_or, false_or, or_false, if_true, if_false, gI_0, gI_1, gI_2, gI_3, gI_4, gI_5, gI_6, gI_7, gI_8, gI_9, gI_10, gI_11, gI_12, gI_13, gI_14, gI_15, gL_0, gL_1, gL_2, gL_3, gL_4, gL_5, gL_6, gL_7, gL_8, gL_9, gL_10, gL_11, gL_12, gL_13, gL_14, gL_15, gA_0, gA_1, gA_2, gA_3, gA_4, gA_5, gA_6, gA_7, gA_8, gA_9, gA_10, gA_11, gA_12, gA_13, gA_14, gA_15, p1_0, p1_1, p1_2, p1_3, p1_4, p1_5, p1_6, p1_7, p1_8, p1_9, p1_10, p1_11, p1_12, p1_13, p1_14, p1_15, p2_0, p2_1, p2_2, p2_3, p2_4, p2_5, p2_6, p2_7, p2_8, p2_9, p2_10, p2_11, p2_12, p2_13, p2_14, p2_15, b01_ok, b_ft, b_tf, b01_e0, b01_e1, lgc_0, not_true_eq_false, not_false_eq_true, K, V, Bool.true_eq_false, Bool.false_eq_true, zm1, zm2, zm4, zm6, z10, v_whyNot, v_ref1 X, v_ref2 X, v_ref4 X, v_ref6 X, Bool.or_false, Bool.false_or, Bool.or_true, Bool.true_or, Bool.not_true, Bool.not_false, v_isThere X, v_isChoice, hp, ite_self]
    exact kr (-1) (by simp [why, hp]) (by decide)
  | true =>
    cases hw : chB w with
    | false =>
      simp only [e191, s191_0, s191_1, s191_2, s191_5, s191_8, s191_9, s191_12, s191_13, s191_14, s191_15, s191_16, s191_19, s191_22, s191_23, s191_26, s191_27, s191_30, s191_31, s191_32, s191_35, s191_36, s191_37, s191_40, s191_41, s191_42, s191_45, s191_46, s191_47, s191_50, s191_53, s191_54, s191_55, s191_58, s191_61, s191_62, s191_63, s191_66, s191_69, s191_70, s191_71, s191_74, oB_some, cl2_i, cl2_r, cl2_l, cl2_u, cl2_s, wd_0, wd_i, wd_r, wd_l, wd_f, ct_i, ct_r, ct_n, ct_f, rf_s, rf_n, tl_s, tl_n, true_and, and_true, eq_self, and_self, Nat.reduceAdd, Nat.reduceLeDiff, Nat.zero_le, Nat.reduceEqDiff, or_true, true_or, false_or, or_false, if_true, if_false, gI_0, gI_1, gI_2, gI_3, gI_4, gI_5, gI_6, gI_7, gI_8, gI_9, gI_10, gI_11, gI_12, gI_13, gI_14, gI_15, gL_0, gL_1, gL_2, gL_3, gL_4, gL_5, gL_6, gL_7, gL_8, gL_9, gL_10, gL_11, gL_12, gL_13, gL_14, gL_15, gA_0, gA_1, gA_2, gA_3, gA_4, gA_5, gA_6, gA_7, gA_8, gA_9, gA_10, gA_11, gA_12, gA_13, gA_14, gA_15, p1_0, p1_1, p1_2, p1_3, p1_4, p1_5, p1_6, p1_7, p1_8, p1_9, p1_10, p1_11, p1_12, p1_13, p1_14, p1_15, p2_0, p2_1, p2_2, p2_3, p2_4, p2_5, p2_6, p2_7, p2_8, p2_9, p2_10, p2_11, p2_12, p2_13, p2_14, p2_15, b01_ok, b_ft, b_tf, b01_e0, b01_e1, lgc_0, not_true_eq_false, not_false_eq_true, K, V, Bool.true_eq_false, Bool.false_eq_true, zm1, zm2, zm4, zm6, z10, v_whyNot, v_ref1 X, v_ref2 X, v_ref4 X, v_ref6 X, Bool.or_false, Bool.false_or, Bool.or_true, Bool.true_or, Bool.not_true, Bool.not_false, v_isThere X, v_isChoice, hp, hw, ite_self]
      exact kr (-2) (by simp [why, hp, hw]) (by decide)
    | true =>
      have kk := k (by simp [why, hp, hw])
      obtain ⟨i, hi, rfl⟩ := isPI_of g hp
      obtain ⟨g1, g2, g3, g4, g5⟩ := g.at hi
      obtain ⟨a1, a2, a3, a4, a5⟩ := X.v.at hi
      have i6 : i < 6 := by omega
      have i31 : i < 2 ^ 31 := by omega
      unfold aWhatKind at kk
      rw [tc_n i31] at kk
      simp only [e191, s191_0, s191_1, s191_2, s191_5, s191_8, s191_9, s191_12, s191_13, s191_14, s191_15, s191_16, s191_19, s191_22, s191_23, s191_26, s191_27, s191_30, s191_31, s191_32, s191_35, s191_36, s191_37, s191_40, s191_41, s191_42, s191_45, s191_46, s191_47, s191_50, s191_53, s191_54, s191_55, s191_58, s191_61, s191_62, s191_63, s191_66, s191_69, s191_70, s191_71, s191_74, oB_some, cl2_i, cl2_r, cl2_l, cl2_u, cl2_s, wd_0, wd_i, wd_r, wd_l, wd_f, ct_i, ct_r, ct_n, ct_f, rf_s, rf_n, tl_s, tl_n, true_and, and_true, eq_self, and_self, Nat.reduceAdd, Nat.reduceLeDiff, Nat.zero_le, Nat.reduceEqDiff, or_true, true_or, false_or, or_false, if_true, if_false, gI_0, gI_1, gI_2, gI_3, gI_4, gI_5, gI_6, gI_7, gI_8, gI_9, gI_10, gI_11, gI_12, gI_13, gI_14, gI_15, gL_0, gL_1, gL_2, gL_3, gL_4, gL_5, gL_6, gL_7, gL_8, gL_9, gL_10, gL_11, gL_12, gL_13, gL_14, gL_15, gA_0, gA_1, gA_2, gA_3, gA_4, gA_5, gA_6, gA_7, gA_8, gA_9, gA_10, gA_11, gA_12, gA_13, gA_14, gA_15, p1_0, p1_1, p1_2, p1_3, p1_4, p1_5, p1_6, p1_7, p1_8, p1_9, p1_10, p1_11, p1_12, p1_13, p1_14, p1_15, p2_0, p2_1, p2_2, p2_3, p2_4, p2_5, p2_6, p2_7, p2_8, p2_9, p2_10, p2_11, p2_12, p2_13, p2_14, p2_15, b01_ok, b_ft, b_tf, b01_e0, b01_e1, lgc_0, not_true_eq_false, not_false_eq_true, K, V, Bool.true_eq_false, Bool.false_eq_true, zm1, zm2, zm4, zm6, z10, v_whyNot, v_ref1 X, v_ref2 X, v_ref4 X, v_ref6 X, Bool.or_false, Bool.false_or, Bool.or_true, Bool.true_or, Bool.not_true, Bool.not_false, v_isThere X, v_isChoice, hp, hw, a1, a2, ix_nI i31, nI_pos' i31, i6, v_kindsByRow X g hy Rw g2, v_figuresByRow X g hy Rw g1]
      by_cases e : w = 0
      · rw [if_neg (not_not_intro e)]
        rw [if_pos e] at kk
        exact kk
      · rw [if_pos e]
        rw [if_neg e] at kk
        exact kk
set_option maxHeartbeats 8000000 in
theorem x_toWhom {d len : Nat} {r : Nat → Nat} {Q : PQ} {h : HP} {x : Nat} {p t : Int32} {S : VS} (X : XQ h x S) (g : Good S) (hy : vy S ≤ 999) (Rw : XR h x r len)
    (kr : ∀ y, why (!isPI S p || !isPI S t) false false false = y → ¬ y = 0 → Q (some (.int y)) (RfC h x y))
    (k : why (!isPI S p || !isPI S t) false false false = 0 → ∀ h', Fm (x + 20) 14 h h' → Q (some (.int (aToWhom S r len p t))) h') : Ev (d + 8) 197 [.ref x, .int p, .int t] h Q := by
  have K := X.1
  unfold XK at K
  have V := X.v.k
  unfold VK at V
  have F := X.2.1.1
  have gn := g.n
  cases hp : isPI S p with
  | false =>
    simp only [e197, s197_0, s197_1, s197_2, s197_5, s197_8, s197_9, s197_10, s197_13, s197_16, s197_17, s197_20, s197_21, s197_22, s197_23, s197_24, s197_27, s197_28, s197_29, s197_32, s197_33, s197_34, s197_37, s197_40, s197_41, s197_44, s197_45, s197_46, s197_47, s197_50, s197_51, s197_54, s197_57, oB_some, cl2_i, cl2_r, cl2_l, cl2_u, cl2_s, wd_0, wd_i, wd_r, wd_l, wd_f, ct_i, ct_r, ct_n, ct_f, rf_s, rf_n, tl_s, tl_n, true_and, and_true, eq_self, and_self, Nat.reduceAdd, Nat.reduceLeDiff, Nat.zero_le, Nat.reduceEqDiff, or_true, true_or, false_or, or_false, if_true, if_false, gI_0, gI_1, gI_2, gI_3, gI_4, gI_5, gI_6, gI_7, gI_8, gI_9, gI_10, gI_11, gI_12, gI_13, gI_14, gI_15, gL_0, gL_1, gL_2, gL_3, gL_4, gL_5, gL_6, gL_7, gL_8, gL_9, gL_10, gL_11, gL_12, gL_13, gL_14, gL_15, gA_0, gA_1, gA_2, gA_3, gA_4, gA_5, gA_6, gA_7, gA_8, gA_9, gA_10, gA_11, gA_12, gA_13, gA_14, gA_15, p1_0, p1_1, p1_2, p1_3, p1_4, p1_5, p1_6, p1_7, p1_8, p1_9, p1_10, p1_11, p1_12, p1_13, p1_14, p1_15, p2_0, p2_1, p2_2, p2_3, p2_4, p2_5, p2_6, p2_7, p2_8, p2_9, p2_10, p2_11, p2_12, p2_13, p2_14, p2_15, b01_ok, b_ft, b_tf, b01_e0, b01_e1, lgc_0, not_true_eq_false, not_false_eq_true, K, V, Bool.true_eq_false, Bool.false_eq_true, zm1, zm2, zm4, zm6, z10, v_whyNot, v_ref1 X, v_ref2 X, v_ref4 X, v_ref6 X, Bool.or_false, Bool.false_or, Bool.or_true, Bool.true_or, Bool.not_true, Bool.not_false, v_isThere X, hp, ite_self]
    exact kr (-1) (by simp [why, hp]) (by decide)
  | true =>
    cases hw : isPI S t with
    | false =>
      simp only [e197, s197_0, s197_1, s197_2, s197_5, s197_8, s197_9, s197_10, s197_13, s197_16, s197_17, s197_20, s197_21, s197_22, s197_23, s197_24, s197_27, s197_28, s197_29, s197_32, s197_33, s197_34, s197_37, s197_40, s197_41, s197_44, s197_45, s197_46, s197_47, s197_50, s197_51, s197_54, s197_57, oB_some, cl2_i, cl2_r, cl2_l, cl2_u, cl2_s, wd_0, wd_i, wd_r, wd_l, wd_f, ct_i, ct_r, ct_n, ct_f, rf_s, rf_n, tl_s, tl_n, true_and, and_true, eq_self, and_self, Nat.reduceAdd, Nat.reduceLeDiff, Nat.zero_le, Nat.reduceEqDiff, or_true, true_or, false_or, or_false, if_true, if_false, gI_0, gI_1, gI_2, gI_3, gI_4, gI_5, gI_6, gI_7, gI_8, gI_9, gI_10, gI_11, gI_12, gI_13, gI_14, gI_15, gL_0, gL_1, gL_2, gL_3, gL_4, gL_5, gL_6, gL_7, gL_8, gL_9, gL_10, gL_11, gL_12, gL_13, gL_14, gL_15, gA_0, gA_1, gA_2, gA_3, gA_4, gA_5, gA_6, gA_7, gA_8, gA_9, gA_10, gA_11, gA_12, gA_13, gA_14, gA_15, p1_0, p1_1, p1_2, p1_3, p1_4, p1_5, p1_6, p1_7, p1_8, p1_9, p1_10, p1_11, p1_12, p1_13, p1_14, p1_15, p2_0, p2_1, p2_2, p2_3, p2_4, p2_5, p2_6, p2_7, p2_8, p2_9, p2_10, p2_11, p2_12, p2_13, p2_14, p2_15, b01_ok, b_ft, b_tf, b01_e0, b01_e1, lgc_0, not_true_eq_false, not_false_eq_true, K, V, Bool.true_eq_false, Bool.false_eq_true, zm1, zm2, zm4, zm6, z10, v_whyNot, v_ref1 X, v_ref2 X, v_ref4 X, v_ref6 X, Bool.or_false, Bool.false_or, Bool.or_true, Bool.true_or, Bool.not_true, Bool.not_false, v_isThere X, hp, hw, ite_self]
      exact kr (-1) (by simp [why, hp, hw]) (by decide)
    | true =>
      have kk := k (by simp [why, hp, hw])
      obtain ⟨i, hi, rfl⟩ := isPI_of g hp
      obtain ⟨j, hj, rfl⟩ := isPI_of g hw
      unfold aToWhom at kk
      rw [tc_n (show i < 2 ^ 31 by omega), tc_n (show j < 2 ^ 31 by omega)] at kk
      simp only [e197, s197_0, s197_1, s197_2, s197_5, s197_8, s197_9, s197_10, s197_13, s197_16, s197_17, s197_20, s197_21, s197_22, s197_23, s197_24, s197_27, s197_28, s197_29, s197_32, s197_33, s197_34, s197_37, s197_40, s197_41, s197_44, s197_45, s197_46, s197_47, s197_50, s197_51, s197_54, oB_some, cl2_i, cl2_r, cl2_l, cl2_u, cl2_s, wd_0, wd_i, wd_r, wd_l, wd_f, ct_i, ct_r, ct_n, ct_f, rf_s, rf_n, tl_s, tl_n, true_and, and_true, eq_self, and_self, Nat.reduceAdd, Nat.reduceLeDiff, Nat.zero_le, Nat.reduceEqDiff, or_true, true_or, false_or, or_false, if_true, if_false, gI_0, gI_1, gI_2, gI_3, gI_4, gI_5, gI_6, gI_7, gI_8, gI_9, gI_10, gI_11, gI_12, gI_13, gI_14, gI_15, gL_0, gL_1, gL_2, gL_3, gL_4, gL_5, gL_6, gL_7, gL_8, gL_9, gL_10, gL_11, gL_12, gL_13, gL_14, gL_15, gA_0, gA_1, gA_2, gA_3, gA_4, gA_5, gA_6, gA_7, gA_8, gA_9, gA_10, gA_11, gA_12, gA_13, gA_14, gA_15, p1_0, p1_1, p1_2, p1_3, p1_4, p1_5, p1_6, p1_7, p1_8, p1_9, p1_10, p1_11, p1_12, p1_13, p1_14, p1_15, p2_0, p2_1, p2_2, p2_3, p2_4, p2_5, p2_6, p2_7, p2_8, p2_9, p2_10, p2_11, p2_12, p2_13, p2_14, p2_15, b01_ok, b_ft, b_tf, b01_e0, b01_e1, lgc_0, not_true_eq_false, not_false_eq_true, K, V, F, Bool.true_eq_false, Bool.false_eq_true, zm1, zm2, zm4, zm6, z10, v_whyNot, v_ref1 X, v_ref2 X, v_ref4 X, v_ref6 X, Bool.or_false, Bool.false_or, Bool.or_true, Bool.true_or, Bool.not_true, Bool.not_false, v_isThere X, hp, hw, Rw.2]
      refine v_friendsByRow X.2.1 g (by omega) hi hj Rw.1 (Or.inl (by omega)) fun h1 m1 => ?_
      simp only [s197_57, oB_some, cl2_i, cl2_r, cl2_l, cl2_u, cl2_s, wd_0, wd_i, wd_r, wd_l, wd_f, ct_i, ct_r, ct_n, ct_f, rf_s, rf_n, tl_s, tl_n, true_and, and_true, eq_self, and_self, Nat.reduceAdd, Nat.reduceLeDiff, Nat.zero_le, Nat.reduceEqDiff, or_true, true_or, false_or, or_false, if_true, if_false, gI_0, gI_1, gI_2, gI_3, gI_4, gI_5, gI_6, gI_7, gI_8, gI_9, gI_10, gI_11, gI_12, gI_13, gI_14, gI_15, gL_0, gL_1, gL_2, gL_3, gL_4, gL_5, gL_6, gL_7, gL_8, gL_9, gL_10, gL_11, gL_12, gL_13, gL_14, gL_15, gA_0, gA_1, gA_2, gA_3, gA_4, gA_5, gA_6, gA_7, gA_8, gA_9, gA_10, gA_11, gA_12, gA_13, gA_14, gA_15, p1_0, p1_1, p1_2, p1_3, p1_4, p1_5, p1_6, p1_7, p1_8, p1_9, p1_10, p1_11, p1_12, p1_13, p1_14, p1_15, p2_0, p2_1, p2_2, p2_3, p2_4, p2_5, p2_6, p2_7, p2_8, p2_9, p2_10, p2_11, p2_12, p2_13, p2_14, p2_15, b01_ok, b_ft, b_tf, b01_e0, b01_e1, lgc_0, not_true_eq_false, not_false_eq_true]
      exact kk h1 (m1.wide (Nat.le_refl _) (by omega))
theorem ways_lt {S : VS} {p c n t : Nat} (hn : n ≤ 7) (ht : t ≤ 20) (h1 : 2 ≤ t) : waysN S p c n t < 2 ^ 40 := by
  have b : ∀ i, dmpW S p c n t i ≤ 20 ^ 7 := fun i => by
    unfold dmpW
    split
    · have a1 : (t - 1) ^ (n - pc i) ≤ 20 ^ (n - pc i) := Nat.pow_le_pow_left (by omega) _
      have a2 : 20 ^ (n - pc i) ≤ 20 ^ 7 := Nat.pow_le_pow_right (by decide) (by omega)
      omega
    · exact Nat.zero_le _
  have s := sumN_le2 b (2 ^ n)
  have m : 2 ^ n ≤ 2 ^ 7 := Nat.pow_le_pow_right (by decide) hn
  have m2 : 20 ^ 7 * 2 ^ n ≤ 20 ^ 7 * 2 ^ 7 := Nat.mul_le_mul_left _ m
  unfold waysN
  omega
theorem pow_lt40 {n t : Nat} (hn : n ≤ 7) (ht : t ≤ 20) : t ^ n < 2 ^ 40 := by
  have a1 : t ^ n ≤ 20 ^ n := Nat.pow_le_pow_left ht _
  have a2 : 20 ^ n ≤ 20 ^ 7 := Nat.pow_le_pow_right (by decide) hn
  omega
set_option maxHeartbeats 8000000 in
theorem x_damp {d : Nat} {Q : PQ} {h : HP} {x : Nat} {p s n t w : Int32} {S : VS} (X : XQ h x S) (g : Good S) (hy : vy S ≤ 999)
    (kr : ∀ y, why (!isPI S p) (decide (s < 0) || (decide (n < 0) || decide (t < 2))) (decide (39 < s) || (decide (7 < n) || decide (20 < t))) (!chB w) = y → ¬ y = 0 → Q (some (.long (4000000000000000000 - y.toInt64))) (RfC h x y))
    (k : why (!isPI S p) (decide (s < 0) || (decide (n < 0) || decide (t < 2))) (decide (39 < s) || (decide (7 < n) || decide (20 < t))) (!chB w) = 0 → ∀ h', Fm (x + 20) 14 h h' → Q (some (.long (aDamp S p s n t w))) h') : Ev (d + 8) 209 [.ref x, .int p, .int s, .int n, .int t, .int w] h Q := by
  have K := X.1
  unfold XK at K
  have V := X.v.k
  unfold VK at V
  have F := X.2.1.1
  have gn := g.n
  -- what is below, what above
  have pre : ∀ (a b : Bool), (decide (s < 0) || (decide (n < 0) || decide (t < 2))) = a → (decide (39 < s) || (decide (7 < n) || decide (20 < t))) = b → Ev (d + 8) 209 [.ref x, .int p, .int s, .int n, .int t, .int w] h Q = WP (d + 7) 209 Q (47, [.val (.ref x), .val (.int p), .val (.int s), .val (.int n), .val (.int t), .val (.int w), .val (.int (b01 a)), .val (.int (b01 b)), .unset], [], h, 0, 0) := by
    rintro a b rfl rfl
    have c1 : (0 ≤ n) = ¬ n < 0 := by rw [Int32.not_lt]
    have c2 : (2 ≤ t) = ¬ t < 2 := by rw [Int32.not_lt]
    have c3 : (t ≤ 20) = ¬ 20 < t := by rw [Int32.not_lt]
    by_cases h0 : s < 0 <;> by_cases h1 : n < 0 <;> by_cases h2 : t < 2 <;> by_cases h3 : 39 < s <;> by_cases h4 : 7 < n <;> by_cases h5 : 20 < t <;>
      simp only [e209, s209_0, s209_1, s209_4, s209_5, s209_8, s209_10, s209_11, s209_14, s209_15, s209_18, s209_19, s209_21, s209_22, s209_24, s209_27, s209_28, s209_30, s209_33, s209_35, s209_37, s209_40, s209_41, s209_44, s209_45, oB_some, cl2_i, cl2_r, cl2_l, cl2_u, cl2_s, wd_0, wd_i, wd_r, wd_l, wd_f, ct_i, ct_r, ct_n, ct_f, rf_s, rf_n, tl_s, tl_n, true_and, and_true, eq_self, and_self, Nat.reduceAdd, Nat.reduceLeDiff, Nat.zero_le, Nat.reduceEqDiff, or_true, true_or, false_or, or_false, if_true, if_false, gI_0, gI_1, gI_2, gI_3, gI_4, gI_5, gI_6, gI_7, gI_8, gI_9, gI_10, gI_11, gI_12, gI_13, gI_14, gI_15, gL_0, gL_1, gL_2, gL_3, gL_4, gL_5, gL_6, gL_7, gL_8, gL_9, gL_10, gL_11, gL_12, gL_13, gL_14, gL_15, gA_0, gA_1, gA_2, gA_3, gA_4, gA_5, gA_6, gA_7, gA_8, gA_9, gA_10, gA_11, gA_12, gA_13, gA_14, gA_15, p1_0, p1_1, p1_2, p1_3, p1_4, p1_5, p1_6, p1_7, p1_8, p1_9, p1_10, p1_11, p1_12, p1_13, p1_14, p1_15, p2_0, p2_1, p2_2, p2_3, p2_4, p2_5, p2_6, p2_7, p2_8, p2_9, p2_10, p2_11, p2_12, p2_13, p2_14, p2_15, b01_ok, b_ft, b_tf, b01_e0, b01_e1, lgc_0, not_true_eq_false, not_false_eq_true, h0, h1, h2, h3, h4, h5, c1, c2, c3, decide_true, decide_false, Bool.or_true, Bool.true_or, Bool.or_false, Bool.false_or, not_true_eq_false, not_false_eq_true, b01_t, b01_f]
  rw [pre _ _ rfl rfl]
  generalize ea : (decide (s < 0) || (decide (n < 0) || decide (t < 2))) = a at kr k ⊢
  generalize eb : (decide (39 < s) || (decide (7 < n) || decide (20 < t))) = b at kr k ⊢
  cases hp : isPI S p with
  | false =>
    cases hw : chB w <;> cases a <;> cases b <;> simp only [s209_47, s209_48, s209_49, s209_52, s209_55, s209_56, s209_59, s209_60, s209_62, s209_64, s209_66, s209_69, s209_72, s209_73, s209_76, s209_77, s209_80, s209_82, s209_84, s209_87, s209_90, s209_91, s209_93, s209_96, s209_97, s209_98, s209_99, s209_100, s209_103, s209_104, s209_105, s209_106, s209_108, s209_111, s209_113, s209_114, s209_117, s209_119, s209_122, oB_some, cl2_i, cl2_r, cl2_l, cl2_u, cl2_s, wd_0, wd_i, wd_r, wd_l, wd_f, ct_i, ct_r, ct_n, ct_f, rf_s, rf_n, tl_s, tl_n, true_and, and_true, eq_self, and_self, Nat.reduceAdd, Nat.reduceLeDiff, Nat.zero_le, Nat.reduceEqDiff, or_true, true_or, false_or, or_false, if_true, if_false, gI_0, gI_1, gI_2, gI_3, gI_4, gI_5, gI_6, gI_7, gI_8, gI_9, gI_10, gI_11, gI_12, gI_13, gI_14, gI_15, gL_0, gL_1, gL_2, gL_3, gL_4, gL_5, gL_6, gL_7, gL_8, gL_9, gL_10, gL_11, gL_12, gL_13, gL_14, gL_15, gA_0, gA_1, gA_2, gA_3, gA_4, gA_5, gA_6, gA_7, gA_8, gA_9, gA_10, gA_11, gA_12, gA_13, gA_14, gA_15, p1_0, p1_1, p1_2, p1_3, p1_4, p1_5, p1_6, p1_7, p1_8, p1_9, p1_10, p1_11, p1_12, p1_13, p1_14, p1_15, p2_0, p2_1, p2_2, p2_3, p2_4, p2_5, p2_6, p2_7, p2_8, p2_9, p2_10, p2_11, p2_12, p2_13, p2_14, p2_15, b01_ok, b_ft, b_tf, b01_e0, b01_e1, lgc_0, not_true_eq_false, not_false_eq_true, K, V, Bool.true_eq_false, Bool.false_eq_true, zm1, zm2, zm4, zm6, z10, v_whyNot, v_ref1 X, v_ref2 X, v_ref4 X, v_ref6 X, Bool.or_false, Bool.false_or, Bool.or_true, Bool.true_or, Bool.not_true, Bool.not_false, b01_t, b01_f, v_isThere X, v_isChoice, hp, hw, ite_self] <;> exact kr (-1) (by simp [why, hp]) (by decide)
  | true =>
    cases a with
    | true =>
      cases hw : chB w <;> cases b <;> simp only [s209_47, s209_48, s209_49, s209_52, s209_55, s209_56, s209_59, s209_60, s209_62, s209_64, s209_66, s209_69, s209_72, s209_73, s209_76, s209_77, s209_80, s209_82, s209_84, s209_87, s209_90, s209_91, s209_93, s209_96, s209_97, s209_98, s209_99, s209_100, s209_103, s209_104, s209_105, s209_106, s209_108, s209_111, s209_113, s209_114, s209_117, s209_119, s209_122, oB_some, cl2_i, cl2_r, cl2_l, cl2_u, cl2_s, wd_0, wd_i, wd_r, wd_l, wd_f, ct_i, ct_r, ct_n, ct_f, rf_s, rf_n, tl_s, tl_n, true_and, and_true, eq_self, and_self, Nat.reduceAdd, Nat.reduceLeDiff, Nat.zero_le, Nat.reduceEqDiff, or_true, true_or, false_or, or_false, if_true, if_false, gI_0, gI_1, gI_2, gI_3, gI_4, gI_5, gI_6, gI_7, gI_8, gI_9, gI_10, gI_11, gI_12, gI_13, gI_14, gI_15, gL_0, gL_1, gL_2, gL_3, gL_4, gL_5, gL_6, gL_7, gL_8, gL_9, gL_10, gL_11, gL_12, gL_13, gL_14, gL_15, gA_0, gA_1, gA_2, gA_3, gA_4, gA_5, gA_6, gA_7, gA_8, gA_9, gA_10, gA_11, gA_12, gA_13, gA_14, gA_15, p1_0, p1_1, p1_2, p1_3, p1_4, p1_5, p1_6, p1_7, p1_8, p1_9, p1_10, p1_11, p1_12, p1_13, p1_14, p1_15, p2_0, p2_1, p2_2, p2_3, p2_4, p2_5, p2_6, p2_7, p2_8, p2_9, p2_10, p2_11, p2_12, p2_13, p2_14, p2_15, b01_ok, b_ft, b_tf, b01_e0, b01_e1, lgc_0, not_true_eq_false, not_false_eq_true, K, V, Bool.true_eq_false, Bool.false_eq_true, zm1, zm2, zm4, zm6, z10, v_whyNot, v_ref1 X, v_ref2 X, v_ref4 X, v_ref6 X, Bool.or_false, Bool.false_or, Bool.or_true, Bool.true_or, Bool.not_true, Bool.not_false, b01_t, b01_f, v_isThere X, v_isChoice, hp, hw, ite_self] <;> exact kr (-4) (by simp [why, hp]) (by decide)
    | false =>
      cases b with
      | true =>
        cases hw : chB w <;> simp only [s209_47, s209_48, s209_49, s209_52, s209_55, s209_56, s209_59, s209_60, s209_62, s209_64, s209_66, s209_69, s209_72, s209_73, s209_76, s209_77, s209_80, s209_82, s209_84, s209_87, s209_90, s209_91, s209_93, s209_96, s209_97, s209_98, s209_99, s209_100, s209_103, s209_104, s209_105, s209_106, s209_108, s209_111, s209_113, s209_114, s209_117, s209_119, s209_122, oB_some, cl2_i, cl2_r, cl2_l, cl2_u, cl2_s, wd_0, wd_i, wd_r, wd_l, wd_f, ct_i, ct_r, ct_n, ct_f, rf_s, rf_n, tl_s, tl_n, true_and, and_true, eq_self, and_self, Nat.reduceAdd, Nat.reduceLeDiff, Nat.zero_le, Nat.reduceEqDiff, or_true, true_or, false_or, or_false, if_true, if_false, gI_0, gI_1, gI_2, gI_3, gI_4, gI_5, gI_6, gI_7, gI_8, gI_9, gI_10, gI_11, gI_12, gI_13, gI_14, gI_15, gL_0, gL_1, gL_2, gL_3, gL_4, gL_5, gL_6, gL_7, gL_8, gL_9, gL_10, gL_11, gL_12, gL_13, gL_14, gL_15, gA_0, gA_1, gA_2, gA_3, gA_4, gA_5, gA_6, gA_7, gA_8, gA_9, gA_10, gA_11, gA_12, gA_13, gA_14, gA_15, p1_0, p1_1, p1_2, p1_3, p1_4, p1_5, p1_6, p1_7, p1_8, p1_9, p1_10, p1_11, p1_12, p1_13, p1_14, p1_15, p2_0, p2_1, p2_2, p2_3, p2_4, p2_5, p2_6, p2_7, p2_8, p2_9, p2_10, p2_11, p2_12, p2_13, p2_14, p2_15, b01_ok, b_ft, b_tf, b01_e0, b01_e1, lgc_0, not_true_eq_false, not_false_eq_true, K, V, Bool.true_eq_false, Bool.false_eq_true, zm1, zm2, zm4, zm6, z10, v_whyNot, v_ref1 X, v_ref2 X, v_ref4 X, v_ref6 X, Bool.or_false, Bool.false_or, Bool.or_true, Bool.true_or, Bool.not_true, Bool.not_false, b01_t, b01_f, v_isThere X, v_isChoice, hp, hw, ite_self] <;> exact kr (-6) (by simp [why, hp]) (by decide)
      | false =>
        cases hw : chB w with
        | false =>
          simp only [s209_47, s209_48, s209_49, s209_52, s209_55, s209_56, s209_59, s209_60, s209_62, s209_64, s209_66, s209_69, s209_72, s209_73, s209_76, s209_77, s209_80, s209_82, s209_84, s209_87, s209_90, s209_91, s209_93, s209_96, s209_97, s209_98, s209_99, s209_100, s209_103, s209_104, s209_105, s209_106, s209_108, s209_111, s209_113, s209_114, s209_117, s209_119, s209_122, oB_some, cl2_i, cl2_r, cl2_l, cl2_u, cl2_s, wd_0, wd_i, wd_r, wd_l, wd_f, ct_i, ct_r, ct_n, ct_f, rf_s, rf_n, tl_s, tl_n, true_and, and_true, eq_self, and_self, Nat.reduceAdd, Nat.reduceLeDiff, Nat.zero_le, Nat.reduceEqDiff, or_true, true_or, false_or, or_false, if_true, if_false, gI_0, gI_1, gI_2, gI_3, gI_4, gI_5, gI_6, gI_7, gI_8, gI_9, gI_10, gI_11, gI_12, gI_13, gI_14, gI_15, gL_0, gL_1, gL_2, gL_3, gL_4, gL_5, gL_6, gL_7, gL_8, gL_9, gL_10, gL_11, gL_12, gL_13, gL_14, gL_15, gA_0, gA_1, gA_2, gA_3, gA_4, gA_5, gA_6, gA_7, gA_8, gA_9, gA_10, gA_11, gA_12, gA_13, gA_14, gA_15, p1_0, p1_1, p1_2, p1_3, p1_4, p1_5, p1_6, p1_7, p1_8, p1_9, p1_10, p1_11, p1_12, p1_13, p1_14, p1_15, p2_0, p2_1, p2_2, p2_3, p2_4, p2_5, p2_6, p2_7, p2_8, p2_9, p2_10, p2_11, p2_12, p2_13, p2_14, p2_15, b01_ok, b_ft, b_tf, b01_e0, b01_e1, lgc_0, not_true_eq_false, not_false_eq_true, K, V, Bool.true_eq_false, Bool.false_eq_true, zm1, zm2, zm4, zm6, z10, v_whyNot, v_ref1 X, v_ref2 X, v_ref4 X, v_ref6 X, Bool.or_false, Bool.false_or, Bool.or_true, Bool.true_or, Bool.not_true, Bool.not_false, b01_t, b01_f, v_isThere X, v_isChoice, hp, hw, ite_self]
          exact kr (-2) (by simp [why, hp, hw]) (by decide)
        | true =>
          have kk := k (by simp [why, hp, hw])
          simp only [Bool.or_eq_false_iff, decide_eq_false_iff_not] at ea eb
          obtain ⟨h0, h1, h2⟩ := ea
          obtain ⟨h3, h4, h5⟩ := eb
          obtain ⟨i, hi, rfl⟩ := isPI_of g hp
          obtain ⟨c, hc, rfl⟩ := arg_of (n := 39) (M := 39) rfl (by decide) h0 h3
          obtain ⟨n2, hn2, rfl⟩ := arg_of (n := 7) (M := 7) rfl (by decide) h1 h4
          have t0 : ¬ t < 0 := fun z => h2 (Int32.lt_iff_toInt_lt.mpr (by
            have := Int32.lt_iff_toInt_lt.mp z
            rw [show ((0 : Int32)).toInt = 0 from by decide] at this
            rw [show ((2 : Int32)).toInt = 2 from by decide]
            omega))
          obtain ⟨t2, ht2, rfl⟩ := arg_of (n := 20) (M := 20) rfl (by decide) t0 h5
          have t22 : 2 ≤ t2 := (nI_leI (a := 2) (b := t2) (by decide) (by omega)).mp (Int32.not_lt.mp h2)
          unfold aDamp at kk
          rw [tc_n (show i < 2 ^ 31 by omega), tc_n (show c < 2 ^ 31 by omega), tc_n (show n2 < 2 ^ 31 by omega), tc_n (show t2 < 2 ^ 31 by omega)] at kk
          simp only [s209_47, s209_48, s209_49, s209_52, s209_55, s209_56, s209_59, s209_60, s209_62, s209_64, s209_66, s209_69, s209_72, s209_73, s209_76, s209_77, s209_80, s209_82, s209_84, s209_87, s209_90, s209_91, s209_93, s209_96, s209_97, s209_98, s209_99, s209_100, s209_103, s209_104, s209_105, s209_106, s209_108, oB_some, cl2_i, cl2_r, cl2_l, cl2_u, cl2_s, wd_0, wd_i, wd_r, wd_l, wd_f, ct_i, ct_r, ct_n, ct_f, rf_s, rf_n, tl_s, tl_n, true_and, and_true, eq_self, and_self, Nat.reduceAdd, Nat.reduceLeDiff, Nat.zero_le, Nat.reduceEqDiff, or_true, true_or, false_or, or_false, if_true, if_false, gI_0, gI_1, gI_2, gI_3, gI_4, gI_5, gI_6, gI_7, gI_8, gI_9, gI_10, gI_11, gI_12, gI_13, gI_14, gI_15, gL_0, gL_1, gL_2, gL_3, gL_4, gL_5, gL_6, gL_7, gL_8, gL_9, gL_10, gL_11, gL_12, gL_13, gL_14, gL_15, gA_0, gA_1, gA_2, gA_3, gA_4, gA_5, gA_6, gA_7, gA_8, gA_9, gA_10, gA_11, gA_12, gA_13, gA_14, gA_15, p1_0, p1_1, p1_2, p1_3, p1_4, p1_5, p1_6, p1_7, p1_8, p1_9, p1_10, p1_11, p1_12, p1_13, p1_14, p1_15, p2_0, p2_1, p2_2, p2_3, p2_4, p2_5, p2_6, p2_7, p2_8, p2_9, p2_10, p2_11, p2_12, p2_13, p2_14, p2_15, b01_ok, b_ft, b_tf, b01_e0, b01_e1, lgc_0, not_true_eq_false, not_false_eq_true, K, V, F, Bool.true_eq_false, Bool.false_eq_true, zm1, zm2, zm4, zm6, z10, v_whyNot, v_ref1 X, v_ref2 X, v_ref4 X, v_ref6 X, Bool.or_false, Bool.false_or, Bool.or_true, Bool.true_or, Bool.not_true, Bool.not_false, b01_t, b01_f, v_isThere X, v_isChoice, hp, hw]
          refine v_waysToLearn X.2.1 g (by omega) hi (show c < 64 by omega) hn2 (by omega) (by omega) fun h1 m1 => ?_
          simp only [s209_111, s209_113, s209_114, s209_117, s209_119, s209_122, oB_some, cl2_i, cl2_r, cl2_l, cl2_u, cl2_s, wd_0, wd_i, wd_r, wd_l, wd_f, ct_i, ct_r, ct_n, ct_f, rf_s, rf_n, tl_s, tl_n, true_and, and_true, eq_self, and_self, Nat.reduceAdd, Nat.reduceLeDiff, Nat.zero_le, Nat.reduceEqDiff, or_true, true_or, false_or, or_false, if_true, if_false, gI_0, gI_1, gI_2, gI_3, gI_4, gI_5, gI_6, gI_7, gI_8, gI_9, gI_10, gI_11, gI_12, gI_13, gI_14, gI_15, gL_0, gL_1, gL_2, gL_3, gL_4, gL_5, gL_6, gL_7, gL_8, gL_9, gL_10, gL_11, gL_12, gL_13, gL_14, gL_15, gA_0, gA_1, gA_2, gA_3, gA_4, gA_5, gA_6, gA_7, gA_8, gA_9, gA_10, gA_11, gA_12, gA_13, gA_14, gA_15, p1_0, p1_1, p1_2, p1_3, p1_4, p1_5, p1_6, p1_7, p1_8, p1_9, p1_10, p1_11, p1_12, p1_13, p1_14, p1_15, p2_0, p2_1, p2_2, p2_3, p2_4, p2_5, p2_6, p2_7, p2_8, p2_9, p2_10, p2_11, p2_12, p2_13, p2_14, p2_15, b01_ok, b_ft, b_tf, b01_e0, b01_e1, lgc_0, not_true_eq_false, not_false_eq_true, v_power (show t2 < 2 ^ 31 by omega) (show n2 < 2 ^ 20 by omega), v_partOf (ways_lt hn2 ht2 t22) (pow_lt40 hn2 ht2)]
          exact kk h1 (m1.wide (Nat.le_refl _) (by omega))
