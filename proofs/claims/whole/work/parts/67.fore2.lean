-- what would be, the one side, on: ink, friends, swaps, purple, rows
def inkN (S : VS) (c n ink : Nat) : Bool := !hb (vs (dayN ink false false n S)) c
def pc (b : Nat) : Nat := nb (lN b)
def inkA (p : Nat → Bool) (M : Nat) : Nat → Nat → Option Nat
  | 0, _ => none
  | m + 1, few => match findA (fun b => decide (pc b = few) && p b) M 0 with
    | some b => some b
    | none => inkA p M m (few + 1)
theorem inkA_s (p : Nat → Bool) (M m few : Nat) : inkA p M (m + 1) few = match findA (fun b => decide (pc b = few) && p b) M 0 with
    | some b => some b
    | none => inkA p M m (few + 1) := rfl
theorem pc_le (b : Nat) : pc b ≤ 40 := nb_le _
theorem two6 {n : Nat} (h : n ≤ 6) : 2 ^ n ≤ 64 := Nat.pow_le_pow_right (n := 2) (by decide) h
set_option maxHeartbeats 8000000 in
theorem v_fewestInInk {d : Nat} {Q : PQ} {h : HP} {f v w n c : Nat} {S : VS} (x : FY h f v w S) (g : Good S) (hn : vy S + n < 2 ^ 20) (hc : c < 64)
    (k : ∀ h', Fm w 12 h h' → Q (some (.int (oN (inkA (inkN S c n) (2 ^ vn S) (vn S + 1) 0)))) h') : Ev (d + 7) 173 [.ref f, .int (nI c), .int (nI n)] h Q := by
  have gn := g.n
  have M64 := two6 gn
  have inner : ∀ (few m j : Nat) (h1 : HP), few ≤ vn S → j + m = 2 ^ vn S → Fm w 12 h h1 →
      (∀ b, findA (fun b => decide (pc b = few) && inkN S c n b) m j = some b → ∀ h', Fm w 12 h h' → Q (some (.int (nI b))) h') →
      (findA (fun b => decide (pc b = few) && inkN S c n b) m j = none → ∀ h', Fm w 12 h h' → WP (d + 6) 173 Q (70, [.val (.ref f), .val (.int (nI c)), .val (.int (nI n)), .val (.int (nI few)), .val (.int (nI (2 ^ vn S)))], [], h', 0, 0)) →
      WP (d + 6) 173 Q (16, [.val (.ref f), .val (.int (nI c)), .val (.int (nI n)), .val (.int (nI few)), .val (.int (nI j))], [], h1, 0, 0) := by
    intro few m
    induction m with
    | zero =>
      intro j h1 hf hj m1 ks kn
      obtain rfl : j = 2 ^ vn S := by omega
      have x1 := x.kept m1
      have x0 := x1.1
      have K1 := x1.2.2.1.k
      unfold VK at K1
      rw [s173_16]
      simp only [s173_18, s173_19, s173_20, s173_23, s173_26, s173_27, s173_30, s173_32, s173_35, s173_36, s173_39, s173_42, s173_43, s173_45, s173_46, s173_49, s173_50, s173_53, s173_54, s173_55, s173_58, s173_61, s173_63, s173_64, s173_67, oB_some, cl2_i, cl2_r, cl2_l, cl2_u, cl2_s, wd_0, wd_i, wd_r, wd_l, wd_f, ct_i, ct_r, ct_n, ct_f, rf_s, rf_n, tl_s, tl_n, true_and, and_true, eq_self, and_self, Nat.reduceAdd, Nat.reduceLeDiff, Nat.zero_le, Nat.reduceEqDiff, or_true, true_or, false_or, or_false, if_true, if_false, gI_0, gI_1, gI_2, gI_3, gI_4, gI_5, gI_6, gI_7, gI_8, gI_9, gI_10, gI_11, gI_12, gI_13, gI_14, gI_15, gL_0, gL_1, gL_2, gL_3, gL_4, gL_5, gL_6, gL_7, gL_8, gL_9, gL_10, gL_11, gL_12, gL_13, gL_14, gL_15, gA_0, gA_1, gA_2, gA_3, gA_4, gA_5, gA_6, gA_7, gA_8, gA_9, gA_10, gA_11, gA_12, gA_13, gA_14, gA_15, p1_0, p1_1, p1_2, p1_3, p1_4, p1_5, p1_6, p1_7, p1_8, p1_9, p1_10, p1_11, p1_12, p1_13, p1_14, p1_15, p2_0, p2_1, p2_2, p2_3, p2_4, p2_5, p2_6, p2_7, p2_8, p2_9, p2_10, p2_11, p2_12, p2_13, p2_14, p2_15, b01_ok, b_ft, b_tf, b01_e0, b01_e1, lgc_0, not_true_eq_false, not_false_eq_true, x0, K1, x1.2.2.1.n, shl1 (vn S) (by omega), Int32.le_refl]
      exact kn rfl h1 m1
    | succ m ih =>
      intro j h1 hf hj m1 ks kn
      have x1 := x.kept m1
      have x0 := x1.1
      have K1 := x1.2.2.1.k
      unfold VK at K1
      have z : ¬ nI (2 ^ vn S) ≤ nI j := nI_ge (by omega) (by omega)
      have pe : nb (lN j) = pc j := rfl
      have pl := pc_le j
      rw [s173_16]
      simp only [s173_18, s173_19, s173_20, s173_23, s173_26, s173_27, s173_30, s173_32, s173_35, s173_36, s173_39, s173_43, s173_45, s173_46, s173_49, s173_50, s173_53, s173_54, s173_55, s173_58, s173_61, s173_63, oB_some, cl2_i, cl2_r, cl2_l, cl2_u, cl2_s, wd_0, wd_i, wd_r, wd_l, wd_f, ct_i, ct_r, ct_n, ct_f, rf_s, rf_n, tl_s, tl_n, true_and, and_true, eq_self, and_self, Nat.reduceAdd, Nat.reduceLeDiff, Nat.zero_le, Nat.reduceEqDiff, or_true, true_or, false_or, or_false, if_true, if_false, gI_0, gI_1, gI_2, gI_3, gI_4, gI_5, gI_6, gI_7, gI_8, gI_9, gI_10, gI_11, gI_12, gI_13, gI_14, gI_15, gL_0, gL_1, gL_2, gL_3, gL_4, gL_5, gL_6, gL_7, gL_8, gL_9, gL_10, gL_11, gL_12, gL_13, gL_14, gL_15, gA_0, gA_1, gA_2, gA_3, gA_4, gA_5, gA_6, gA_7, gA_8, gA_9, gA_10, gA_11, gA_12, gA_13, gA_14, gA_15, p1_0, p1_1, p1_2, p1_3, p1_4, p1_5, p1_6, p1_7, p1_8, p1_9, p1_10, p1_11, p1_12, p1_13, p1_14, p1_15, p2_0, p2_1, p2_2, p2_3, p2_4, p2_5, p2_6, p2_7, p2_8, p2_9, p2_10, p2_11, p2_12, p2_13, p2_14, p2_15, b01_ok, b_ft, b_tf, b01_e0, b01_e1, lgc_0, not_true_eq_false, not_false_eq_true, x0, K1, x1.2.2.1.n, shl1 (vn S) (by omega), z, v_bitCountI (show j < 64 by omega), pe, eqP (show pc j < 2 ^ 31 by omega) (show few < 2 ^ 31 by omega)]
      rw [findA_s] at ks kn
      have next : (decide (pc j = few) && inkN S c n j) = false → ∀ h2, Fm w 12 h h2 → WP (d + 6) 173 Q (64, [.val (.ref f), .val (.int (nI c)), .val (.int (nI n)), .val (.int (nI few)), .val (.int (nI j))], [], h2, 0, 0) := by
        intro e h2 m2
        rw [if_neg (by rw [e]; decide)] at ks kn
        simp only [s173_64, s173_67, oB_some, cl2_i, cl2_r, cl2_l, cl2_u, cl2_s, wd_0, wd_i, wd_r, wd_l, wd_f, ct_i, ct_r, ct_n, ct_f, rf_s, rf_n, tl_s, tl_n, true_and, and_true, eq_self, and_self, Nat.reduceAdd, Nat.reduceLeDiff, Nat.zero_le, Nat.reduceEqDiff, or_true, true_or, false_or, or_false, if_true, if_false, gI_0, gI_1, gI_2, gI_3, gI_4, gI_5, gI_6, gI_7, gI_8, gI_9, gI_10, gI_11, gI_12, gI_13, gI_14, gI_15, gL_0, gL_1, gL_2, gL_3, gL_4, gL_5, gL_6, gL_7, gL_8, gL_9, gL_10, gL_11, gL_12, gL_13, gL_14, gL_15, gA_0, gA_1, gA_2, gA_3, gA_4, gA_5, gA_6, gA_7, gA_8, gA_9, gA_10, gA_11, gA_12, gA_13, gA_14, gA_15, p1_0, p1_1, p1_2, p1_3, p1_4, p1_5, p1_6, p1_7, p1_8, p1_9, p1_10, p1_11, p1_12, p1_13, p1_14, p1_15, p2_0, p2_1, p2_2, p2_3, p2_4, p2_5, p2_6, p2_7, p2_8, p2_9, p2_10, p2_11, p2_12, p2_13, p2_14, p2_15, b01_ok, b_ft, b_tf, b01_e0, b01_e1, lgc_0, not_true_eq_false, not_false_eq_true, nI_1]
        exact ih (j + 1) h2 hf (by omega) m2 ks kn
      by_cases e : pc j = few
      · rw [if_pos e]
        simp only [s173_42, s173_43, s173_45, s173_46, oB_some, cl2_i, cl2_r, cl2_l, cl2_u, cl2_s, wd_0, wd_i, wd_r, wd_l, wd_f, ct_i, ct_r, ct_n, ct_f, rf_s, rf_n, tl_s, tl_n, true_and, and_true, eq_self, and_self, Nat.reduceAdd, Nat.reduceLeDiff, Nat.zero_le, Nat.reduceEqDiff, or_true, true_or, false_or, or_false, if_true, if_false, gI_0, gI_1, gI_2, gI_3, gI_4, gI_5, gI_6, gI_7, gI_8, gI_9, gI_10, gI_11, gI_12, gI_13, gI_14, gI_15, gL_0, gL_1, gL_2, gL_3, gL_4, gL_5, gL_6, gL_7, gL_8, gL_9, gL_10, gL_11, gL_12, gL_13, gL_14, gL_15, gA_0, gA_1, gA_2, gA_3, gA_4, gA_5, gA_6, gA_7, gA_8, gA_9, gA_10, gA_11, gA_12, gA_13, gA_14, gA_15, p1_0, p1_1, p1_2, p1_3, p1_4, p1_5, p1_6, p1_7, p1_8, p1_9, p1_10, p1_11, p1_12, p1_13, p1_14, p1_15, p2_0, p2_1, p2_2, p2_3, p2_4, p2_5, p2_6, p2_7, p2_8, p2_9, p2_10, p2_11, p2_12, p2_13, p2_14, p2_15, b01_ok, b_ft, b_tf, b01_e0, b01_e1, lgc_0, not_true_eq_false, not_false_eq_true, x0]
        refine v_passInInk x1 g hn (show j < 64 by omega) fun h2 m2 q2 => ?_
        have x2 := x1.kept m2
        have x20 := x2.1
        have K2 := q2.k
        unfold VK at K2
        simp only [s173_49, s173_50, s173_53, s173_54, s173_55, s173_58, s173_61, s173_63, oB_some, cl2_i, cl2_r, cl2_l, cl2_u, cl2_s, wd_0, wd_i, wd_r, wd_l, wd_f, ct_i, ct_r, ct_n, ct_f, rf_s, rf_n, tl_s, tl_n, true_and, and_true, eq_self, and_self, Nat.reduceAdd, Nat.reduceLeDiff, Nat.zero_le, Nat.reduceEqDiff, or_true, true_or, false_or, or_false, if_true, if_false, gI_0, gI_1, gI_2, gI_3, gI_4, gI_5, gI_6, gI_7, gI_8, gI_9, gI_10, gI_11, gI_12, gI_13, gI_14, gI_15, gL_0, gL_1, gL_2, gL_3, gL_4, gL_5, gL_6, gL_7, gL_8, gL_9, gL_10, gL_11, gL_12, gL_13, gL_14, gL_15, gA_0, gA_1, gA_2, gA_3, gA_4, gA_5, gA_6, gA_7, gA_8, gA_9, gA_10, gA_11, gA_12, gA_13, gA_14, gA_15, p1_0, p1_1, p1_2, p1_3, p1_4, p1_5, p1_6, p1_7, p1_8, p1_9, p1_10, p1_11, p1_12, p1_13, p1_14, p1_15, p2_0, p2_1, p2_2, p2_3, p2_4, p2_5, p2_6, p2_7, p2_8, p2_9, p2_10, p2_11, p2_12, p2_13, p2_14, p2_15, b01_ok, b_ft, b_tf, b01_e0, b01_e1, lgc_0, not_true_eq_false, not_false_eq_true, x20, K2, v_hasLearntS q2 hc]
        by_cases e2 : hb (vs (dayN j false false n S)) c = true
        · rw [if_pos (by rw [e2]; decide)]
          exact next (by unfold inkN; rw [e2]; simp) h2 (m1.tr m2)
        · rw [if_neg (by simpa using e2)]
          refine ks j ?_ h2 (m1.tr m2)
          rw [if_pos (by unfold inkN; simp [e, e2])]
      · rw [if_neg e]
        exact next (by simp [e]) h1 m1
  have outer : ∀ (m few : Nat) (y : Slot) (h1 : HP), few + m = vn S + 1 → Fm w 12 h h1 → inkA (inkN S c n) (2 ^ vn S) m few = inkA (inkN S c n) (2 ^ vn S) (vn S + 1) 0 →
      WP (d + 6) 173 Q (2, [.val (.ref f), .val (.int (nI c)), .val (.int (nI n)), .val (.int (nI few)), y], [], h1, 0, 0) := by
    intro m
    induction m with
    | zero =>
      intro few y h1 hm m1 e1
      obtain rfl : few = vn S + 1 := by omega
      have x1 := x.kept m1
      have x0 := x1.1
      have K1 := x1.2.2.1.k
      unfold VK at K1
      have z : nI (vn S) < nI (vn S + 1) := nI_lt (by omega) (by omega)
      rw [s173_2]
      simp only [s173_3, s173_4, s173_7, s173_10, s173_76, s173_78, oB_some, cl2_i, cl2_r, cl2_l, cl2_u, cl2_s, wd_0, wd_i, wd_r, wd_l, wd_f, ct_i, ct_r, ct_n, ct_f, rf_s, rf_n, tl_s, tl_n, true_and, and_true, eq_self, and_self, Nat.reduceAdd, Nat.reduceLeDiff, Nat.zero_le, Nat.reduceEqDiff, or_true, true_or, false_or, or_false, if_true, if_false, gI_0, gI_1, gI_2, gI_3, gI_4, gI_5, gI_6, gI_7, gI_8, gI_9, gI_10, gI_11, gI_12, gI_13, gI_14, gI_15, gL_0, gL_1, gL_2, gL_3, gL_4, gL_5, gL_6, gL_7, gL_8, gL_9, gL_10, gL_11, gL_12, gL_13, gL_14, gL_15, gA_0, gA_1, gA_2, gA_3, gA_4, gA_5, gA_6, gA_7, gA_8, gA_9, gA_10, gA_11, gA_12, gA_13, gA_14, gA_15, p1_0, p1_1, p1_2, p1_3, p1_4, p1_5, p1_6, p1_7, p1_8, p1_9, p1_10, p1_11, p1_12, p1_13, p1_14, p1_15, p2_0, p2_1, p2_2, p2_3, p2_4, p2_5, p2_6, p2_7, p2_8, p2_9, p2_10, p2_11, p2_12, p2_13, p2_14, p2_15, b01_ok, b_ft, b_tf, b01_e0, b01_e1, lgc_0, not_true_eq_false, not_false_eq_true, x0, K1, x1.2.2.1.n, z]
      have kk := k h1 m1
      rw [← e1] at kk
      exact kk
    | succ m ih =>
      intro few y h1 hm m1 e1
      have x1 := x.kept m1
      have x0 := x1.1
      have K1 := x1.2.2.1.k
      unfold VK at K1
      have z : ¬ nI (vn S) < nI few := nI_nlt (by omega) (by omega)
      rw [inkA_s] at e1
      rw [s173_2]
      simp only [s173_3, s173_4, s173_7, s173_10, s173_13, s173_14, oB_some, cl2_i, cl2_r, cl2_l, cl2_u, cl2_s, wd_0, wd_i, wd_r, wd_l, wd_f, ct_i, ct_r, ct_n, ct_f, rf_s, rf_n, tl_s, tl_n, true_and, and_true, eq_self, and_self, Nat.reduceAdd, Nat.reduceLeDiff, Nat.zero_le, Nat.reduceEqDiff, or_true, true_or, false_or, or_false, if_true, if_false, gI_0, gI_1, gI_2, gI_3, gI_4, gI_5, gI_6, gI_7, gI_8, gI_9, gI_10, gI_11, gI_12, gI_13, gI_14, gI_15, gL_0, gL_1, gL_2, gL_3, gL_4, gL_5, gL_6, gL_7, gL_8, gL_9, gL_10, gL_11, gL_12, gL_13, gL_14, gL_15, gA_0, gA_1, gA_2, gA_3, gA_4, gA_5, gA_6, gA_7, gA_8, gA_9, gA_10, gA_11, gA_12, gA_13, gA_14, gA_15, p1_0, p1_1, p1_2, p1_3, p1_4, p1_5, p1_6, p1_7, p1_8, p1_9, p1_10, p1_11, p1_12, p1_13, p1_14, p1_15, p2_0, p2_1, p2_2, p2_3, p2_4, p2_5, p2_6, p2_7, p2_8, p2_9, p2_10, p2_11, p2_12, p2_13, p2_14, p2_15, b01_ok, b_ft, b_tf, b01_e0, b01_e1, lgc_0, not_true_eq_false, not_false_eq_true, x0, K1, x1.2.2.1.n, z]
      refine inner few (2 ^ vn S) 0 h1 (by omega) (by omega) m1 (fun b hb h2 m2 => ?_) (fun hb h2 m2 => ?_)
      · rw [hb] at e1
        have kk := k h2 m2
        rw [← e1] at kk
        exact kk
      · rw [hb] at e1
        simp only [s173_70, s173_73, oB_some, cl2_i, cl2_r, cl2_l, cl2_u, cl2_s, wd_0, wd_i, wd_r, wd_l, wd_f, ct_i, ct_r, ct_n, ct_f, rf_s, rf_n, tl_s, tl_n, true_and, and_true, eq_self, and_self, Nat.reduceAdd, Nat.reduceLeDiff, Nat.zero_le, Nat.reduceEqDiff, or_true, true_or, false_or, or_false, if_true, if_false, gI_0, gI_1, gI_2, gI_3, gI_4, gI_5, gI_6, gI_7, gI_8, gI_9, gI_10, gI_11, gI_12, gI_13, gI_14, gI_15, gL_0, gL_1, gL_2, gL_3, gL_4, gL_5, gL_6, gL_7, gL_8, gL_9, gL_10, gL_11, gL_12, gL_13, gL_14, gL_15, gA_0, gA_1, gA_2, gA_3, gA_4, gA_5, gA_6, gA_7, gA_8, gA_9, gA_10, gA_11, gA_12, gA_13, gA_14, gA_15, p1_0, p1_1, p1_2, p1_3, p1_4, p1_5, p1_6, p1_7, p1_8, p1_9, p1_10, p1_11, p1_12, p1_13, p1_14, p1_15, p2_0, p2_1, p2_2, p2_3, p2_4, p2_5, p2_6, p2_7, p2_8, p2_9, p2_10, p2_11, p2_12, p2_13, p2_14, p2_15, b01_ok, b_ft, b_tf, b01_e0, b01_e1, lgc_0, not_true_eq_false, not_false_eq_true, nI_1]
        exact ih (few + 1) _ h2 (by omega) m2 e1
  simp only [e173, s173_0, s173_1, oB_some, cl2_i, cl2_r, cl2_l, cl2_u, cl2_s, wd_0, wd_i, wd_r, wd_l, wd_f, ct_i, ct_r, ct_n, ct_f, rf_s, rf_n, tl_s, tl_n, true_and, and_true, eq_self, and_self, Nat.reduceAdd, Nat.reduceLeDiff, Nat.zero_le, Nat.reduceEqDiff, or_true, true_or, false_or, or_false, if_true, if_false, gI_0, gI_1, gI_2, gI_3, gI_4, gI_5, gI_6, gI_7, gI_8, gI_9, gI_10, gI_11, gI_12, gI_13, gI_14, gI_15, gL_0, gL_1, gL_2, gL_3, gL_4, gL_5, gL_6, gL_7, gL_8, gL_9, gL_10, gL_11, gL_12, gL_13, gL_14, gL_15, gA_0, gA_1, gA_2, gA_3, gA_4, gA_5, gA_6, gA_7, gA_8, gA_9, gA_10, gA_11, gA_12, gA_13, gA_14, gA_15, p1_0, p1_1, p1_2, p1_3, p1_4, p1_5, p1_6, p1_7, p1_8, p1_9, p1_10, p1_11, p1_12, p1_13, p1_14, p1_15, p2_0, p2_1, p2_2, p2_3, p2_4, p2_5, p2_6, p2_7, p2_8, p2_9, p2_10, p2_11, p2_12, p2_13, p2_14, p2_15, b01_ok, b_ft, b_tf, b01_e0, b01_e1, lgc_0, not_true_eq_false, not_false_eq_true]
  exact outer (vn S + 1) 0 _ h (by omega) Fm.rf rfl
def lesA (f : Nat → Option Nat) : Nat → Nat → Option Nat × Nat → Option Nat × Nat
  | 0, _, b => b
  | m + 1, j, b => lesA f m (j + 1) (match f j with | none => b | some a => if a < b.2 then (some j, a) else b)
theorem lesA_s (f : Nat → Option Nat) (m j : Nat) (b : Option Nat × Nat) : lesA f (m + 1) j b = lesA f m (j + 1) (match f j with | none => b | some a => if a < b.2 then (some j, a) else b) := rfl
theorem untilN_lt {ink : Nat} {dm sh : Bool} {ask : VS → Bool} {a : Nat} : ∀ (n j : Nat) (S : VS), untilN ink dm sh ask n j S = some a → a < j + n
  | 0, j, S, h => by cases h
  | n + 1, j, S, h => by
    rw [untilN] at h
    by_cases e : ask S = true
    · rw [if_pos e] at h
      cases h
      omega
    · rw [if_neg e] at h
      have := untilN_lt n (j + 1) _ h
      omega
def frA (S : VS) (p t c f : Nat) : Option Nat := if f = p then none else untilN 0 false false (fun T => hb (vw T t) c) 61 0 (wR S p f)
def friN (S : VS) (p t c : Nat) : Option Nat × Nat := lesA (frA S p t c) (vn S) 0 (none, 61)
set_option maxHeartbeats 8000000 in
theorem v_bestFriend {d : Nat} {Q : PQ} {h : HP} {f v w p t c : Nat} {what : Int32} {S : VS} (x : FY h f v w S) (g : Good S) (hy : vy S + 61 < 2 ^ 20) (hp : p < vn S) (ht : t < vn S) (hc : c < 64)
    (k : ∀ h', Fm w 12 h h' → Q (some (.int (ans2 what (friN S p t c)))) h') : Ev (d + 7) 178 [.ref f, .int (nI p), .int (nI t), .int (nI c), .int what] h Q := by
  have gn := g.n
  have p6 : p < 6 := by omega
  have p31 : p < 2 ^ 31 := by omega
  have loop : ∀ (m j : Nat) (h1 : HP) (b : Option Nat × Nat) (y : Slot), j + m = vn S → Fm w 12 h h1 → b.2 ≤ 61 → (∀ a, b.1 = some a → a < 2 ^ 31) → lesA (frA S p t c) m j b = friN S p t c →
      WP (d + 6) 178 Q (11, [.val (.ref f), .val (.int (nI p)), .val (.int (nI t)), .val (.int (nI c)), .val (.int what), .val (.int (oN b.1)), .val (.int (nI b.2)), .val (.int (nI j)), y], [], h1, 0, 0) := by
    intro m
    induction m with
    | zero =>
      intro j h1 b y hj m1 b0 b1 e1
      obtain rfl : j = vn S := by omega
      have x1 := x.kept m1
      have x0 := x1.1
      have K1 := x1.2.2.1.k
      unfold VK at K1
      have e2 : b = friN S p t c := e1
      rw [s178_11]
      simp only [s178_13, s178_14, s178_17, s178_20, s178_87, s178_89, s178_92, s178_94, s178_96, s178_99, s178_101, s178_104, s178_106, oB_some, cl2_i, cl2_r, cl2_l, cl2_u, cl2_s, wd_0, wd_i, wd_r, wd_l, wd_f, ct_i, ct_r, ct_n, ct_f, rf_s, rf_n, tl_s, tl_n, true_and, and_true, eq_self, and_self, Nat.reduceAdd, Nat.reduceLeDiff, Nat.zero_le, Nat.reduceEqDiff, or_true, true_or, false_or, or_false, if_true, if_false, gI_0, gI_1, gI_2, gI_3, gI_4, gI_5, gI_6, gI_7, gI_8, gI_9, gI_10, gI_11, gI_12, gI_13, gI_14, gI_15, gL_0, gL_1, gL_2, gL_3, gL_4, gL_5, gL_6, gL_7, gL_8, gL_9, gL_10, gL_11, gL_12, gL_13, gL_14, gL_15, gA_0, gA_1, gA_2, gA_3, gA_4, gA_5, gA_6, gA_7, gA_8, gA_9, gA_10, gA_11, gA_12, gA_13, gA_14, gA_15, p1_0, p1_1, p1_2, p1_3, p1_4, p1_5, p1_6, p1_7, p1_8, p1_9, p1_10, p1_11, p1_12, p1_13, p1_14, p1_15, p2_0, p2_1, p2_2, p2_3, p2_4, p2_5, p2_6, p2_7, p2_8, p2_9, p2_10, p2_11, p2_12, p2_13, p2_14, p2_15, b01_ok, b_ft, b_tf, b01_e0, b01_e1, lgc_0, not_true_eq_false, not_false_eq_true, x0, K1, x1.2.2.1.n, Int32.le_refl, oN_m9 b1]
      have kk := k h1 m1
      rw [← e2] at kk
      unfold ans2 at kk
      by_cases z : what = 0
      · rw [if_pos z]
        rw [if_pos z] at kk
        exact kk
      · rw [if_neg z]
        rw [if_neg z] at kk
        by_cases z2 : b.1 = none
        · rw [if_neg (not_not_intro z2), z2]
          rw [if_pos z2] at kk
          exact kk
        · rw [if_pos z2]
          rw [if_neg z2] at kk
          exact kk
    | succ m ih =>
      intro j h1 b y hj m1 b0 b1 e1
      have x1 := x.kept m1
      have x0 := x1.1
      have K1 := x1.2.2.1.k
      unfold VK at K1
      have z : ¬ nI (vn S) ≤ nI j := nI_ge (by omega) (by omega)
      rw [lesA_s] at e1
      rw [s178_11]
      simp only [s178_13, s178_14, s178_17, s178_20, s178_23, s178_25, s178_26, s178_29, oB_some, cl2_i, cl2_r, cl2_l, cl2_u, cl2_s, wd_0, wd_i, wd_r, wd_l, wd_f, ct_i, ct_r, ct_n, ct_f, rf_s, rf_n, tl_s, tl_n, true_and, and_true, eq_self, and_self, Nat.reduceAdd, Nat.reduceLeDiff, Nat.zero_le, Nat.reduceEqDiff, or_true, true_or, false_or, or_false, if_true, if_false, gI_0, gI_1, gI_2, gI_3, gI_4, gI_5, gI_6, gI_7, gI_8, gI_9, gI_10, gI_11, gI_12, gI_13, gI_14, gI_15, gL_0, gL_1, gL_2, gL_3, gL_4, gL_5, gL_6, gL_7, gL_8, gL_9, gL_10, gL_11, gL_12, gL_13, gL_14, gL_15, gA_0, gA_1, gA_2, gA_3, gA_4, gA_5, gA_6, gA_7, gA_8, gA_9, gA_10, gA_11, gA_12, gA_13, gA_14, gA_15, p1_0, p1_1, p1_2, p1_3, p1_4, p1_5, p1_6, p1_7, p1_8, p1_9, p1_10, p1_11, p1_12, p1_13, p1_14, p1_15, p2_0, p2_1, p2_2, p2_3, p2_4, p2_5, p2_6, p2_7, p2_8, p2_9, p2_10, p2_11, p2_12, p2_13, p2_14, p2_15, b01_ok, b_ft, b_tf, b01_e0, b01_e1, lgc_0, not_true_eq_false, not_false_eq_true, x0, K1, x1.2.2.1.n, z, eqP (show j < 2 ^ 31 by omega) p31]
      have next : ∀ (h2 : HP) (b2 : Option Nat × Nat) (y2 : Slot), Fm w 12 h h2 → b2.2 ≤ 61 → (∀ a, b2.1 = some a → a < 2 ^ 31) → lesA (frA S p t c) m (j + 1) b2 = friN S p t c →
          WP (d + 6) 178 Q (81, [.val (.ref f), .val (.int (nI p)), .val (.int (nI t)), .val (.int (nI c)), .val (.int what), .val (.int (oN b2.1)), .val (.int (nI b2.2)), .val (.int (nI j)), y2], [], h2, 0, 0) := by
        intro h2 b2 y2 m2 c0 c1 e3
        simp only [s178_81, s178_84, oB_some, cl2_i, cl2_r, cl2_l, cl2_u, cl2_s, wd_0, wd_i, wd_r, wd_l, wd_f, ct_i, ct_r, ct_n, ct_f, rf_s, rf_n, tl_s, tl_n, true_and, and_true, eq_self, and_self, Nat.reduceAdd, Nat.reduceLeDiff, Nat.zero_le, Nat.reduceEqDiff, or_true, true_or, false_or, or_false, if_true, if_false, gI_0, gI_1, gI_2, gI_3, gI_4, gI_5, gI_6, gI_7, gI_8, gI_9, gI_10, gI_11, gI_12, gI_13, gI_14, gI_15, gL_0, gL_1, gL_2, gL_3, gL_4, gL_5, gL_6, gL_7, gL_8, gL_9, gL_10, gL_11, gL_12, gL_13, gL_14, gL_15, gA_0, gA_1, gA_2, gA_3, gA_4, gA_5, gA_6, gA_7, gA_8, gA_9, gA_10, gA_11, gA_12, gA_13, gA_14, gA_15, p1_0, p1_1, p1_2, p1_3, p1_4, p1_5, p1_6, p1_7, p1_8, p1_9, p1_10, p1_11, p1_12, p1_13, p1_14, p1_15, p2_0, p2_1, p2_2, p2_3, p2_4, p2_5, p2_6, p2_7, p2_8, p2_9, p2_10, p2_11, p2_12, p2_13, p2_14, p2_15, b01_ok, b_ft, b_tf, b01_e0, b01_e1, lgc_0, not_true_eq_false, not_false_eq_true, nI_1]
        exact ih (j + 1) h2 b2 _ (by omega) m2 c0 c1 e3
      by_cases e : j = p
      · rw [if_neg (not_not_intro e)]
        have ef : frA S p t c j = none := by unfold frA; rw [if_pos e]
        rw [ef] at e1
        exact next h1 b _ m1 b0 b1 e1
      · rw [if_pos e]
        simp only [s178_32, s178_33, oB_some, cl2_i, cl2_r, cl2_l, cl2_u, cl2_s, wd_0, wd_i, wd_r, wd_l, wd_f, ct_i, ct_r, ct_n, ct_f, rf_s, rf_n, tl_s, tl_n, true_and, and_true, eq_self, and_self, Nat.reduceAdd, Nat.reduceLeDiff, Nat.zero_le, Nat.reduceEqDiff, or_true, true_or, false_or, or_false, if_true, if_false, gI_0, gI_1, gI_2, gI_3, gI_4, gI_5, gI_6, gI_7, gI_8, gI_9, gI_10, gI_11, gI_12, gI_13, gI_14, gI_15, gL_0, gL_1, gL_2, gL_3, gL_4, gL_5, gL_6, gL_7, gL_8, gL_9, gL_10, gL_11, gL_12, gL_13, gL_14, gL_15, gA_0, gA_1, gA_2, gA_3, gA_4, gA_5, gA_6, gA_7, gA_8, gA_9, gA_10, gA_11, gA_12, gA_13, gA_14, gA_15, p1_0, p1_1, p1_2, p1_3, p1_4, p1_5, p1_6, p1_7, p1_8, p1_9, p1_10, p1_11, p1_12, p1_13, p1_14, p1_15, p2_0, p2_1, p2_2, p2_3, p2_4, p2_5, p2_6, p2_7, p2_8, p2_9, p2_10, p2_11, p2_12, p2_13, p2_14, p2_15, b01_ok, b_ft, b_tf, b01_e0, b01_e1, lgc_0, not_true_eq_false, not_false_eq_true, x0]
        refine v_asItIs x1 g fun h2 m2 q2 f2 => ?_
        have x2 := x1.kept m2
        have x20 := x2.1
        have K2 := q2.k
        unfold VK at K2
        have q3 := RV_r q2 p j
        have m3 : Fm w 12 h2 (sI h2 (w + 3) p (nI j)) := Fm.rf.sI (by omega) (by omega)
        have f3 : FV (sI h2 (w + 3) p (nI j)) w 0 false false := f2.sI (Or.inl (by omega))
        have x3 := x2.kept m3
        have g3 : Good (wR S p j) := g.wR (by omega)
        simp only [s178_36, s178_37, s178_38, s178_41, s178_44, s178_45, s178_47, s178_48, s178_49, s178_52, s178_53, s178_54, oB_some, cl2_i, cl2_r, cl2_l, cl2_u, cl2_s, wd_0, wd_i, wd_r, wd_l, wd_f, ct_i, ct_r, ct_n, ct_f, rf_s, rf_n, tl_s, tl_n, true_and, and_true, eq_self, and_self, Nat.reduceAdd, Nat.reduceLeDiff, Nat.zero_le, Nat.reduceEqDiff, or_true, true_or, false_or, or_false, if_true, if_false, gI_0, gI_1, gI_2, gI_3, gI_4, gI_5, gI_6, gI_7, gI_8, gI_9, gI_10, gI_11, gI_12, gI_13, gI_14, gI_15, gL_0, gL_1, gL_2, gL_3, gL_4, gL_5, gL_6, gL_7, gL_8, gL_9, gL_10, gL_11, gL_12, gL_13, gL_14, gL_15, gA_0, gA_1, gA_2, gA_3, gA_4, gA_5, gA_6, gA_7, gA_8, gA_9, gA_10, gA_11, gA_12, gA_13, gA_14, gA_15, p1_0, p1_1, p1_2, p1_3, p1_4, p1_5, p1_6, p1_7, p1_8, p1_9, p1_10, p1_11, p1_12, p1_13, p1_14, p1_15, p2_0, p2_1, p2_2, p2_3, p2_4, p2_5, p2_6, p2_7, p2_8, p2_9, p2_10, p2_11, p2_12, p2_13, p2_14, p2_15, b01_ok, b_ft, b_tf, b01_e0, b01_e1, lgc_0, not_true_eq_false, not_false_eq_true, z_hkd_sI, z_hln_sI, z_hL_sI, z_hR_sI, z_hnx_sI, z_hkd_sL, z_hln_sL, z_hI_sL, z_hR_sL, z_hnx_sL, z_hkd_sR, z_hln_sR, z_hI_sR, z_hL_sR, z_hnx_sR, z_hkd_cI, z_hln_cI, z_hL_cI, z_hR_cI, z_hnx_cI, z_hkd_cLg, z_hln_cLg, z_hI_cLg, z_hR_cLg, z_hnx_cLg, x20, K2, ix_nI p31, nI_pos' p31, p6]
        refine v_daysUntil q3 g3 f3 (by decide) hy ht hc fun h4 m4 => ?_
        have mm := m1.tr (m2.tr (m3.tr m4))
        have ef : frA S p t c j = untilN 0 false false (fun T => hb (vw T t) c) 61 0 (wR S p j) := by unfold frA; rw [if_neg e]
        rw [← ef]
        have lt : ∀ a, frA S p t c j = some a → a < 61 := fun a ha => by
          rw [ef] at ha
          have := untilN_lt _ _ _ ha
          omega
        cases ea : frA S p t c j with
        | none =>
          rw [ea] at e1
          simp only [s178_57, s178_59, s178_61, s178_63, s178_66, s178_68, s178_70, s178_73, s178_75, s178_77, s178_79, oB_some, cl2_i, cl2_r, cl2_l, cl2_u, cl2_s, wd_0, wd_i, wd_r, wd_l, wd_f, ct_i, ct_r, ct_n, ct_f, rf_s, rf_n, tl_s, tl_n, true_and, and_true, eq_self, and_self, Nat.reduceAdd, Nat.reduceLeDiff, Nat.zero_le, Nat.reduceEqDiff, or_true, true_or, false_or, or_false, if_true, if_false, gI_0, gI_1, gI_2, gI_3, gI_4, gI_5, gI_6, gI_7, gI_8, gI_9, gI_10, gI_11, gI_12, gI_13, gI_14, gI_15, gL_0, gL_1, gL_2, gL_3, gL_4, gL_5, gL_6, gL_7, gL_8, gL_9, gL_10, gL_11, gL_12, gL_13, gL_14, gL_15, gA_0, gA_1, gA_2, gA_3, gA_4, gA_5, gA_6, gA_7, gA_8, gA_9, gA_10, gA_11, gA_12, gA_13, gA_14, gA_15, p1_0, p1_1, p1_2, p1_3, p1_4, p1_5, p1_6, p1_7, p1_8, p1_9, p1_10, p1_11, p1_12, p1_13, p1_14, p1_15, p2_0, p2_1, p2_2, p2_3, p2_4, p2_5, p2_6, p2_7, p2_8, p2_9, p2_10, p2_11, p2_12, p2_13, p2_14, p2_15, b01_ok, b_ft, b_tf, b01_e0, b01_e1, lgc_0, not_true_eq_false, not_false_eq_true, oN_none]
          exact next h4 b _ mm b0 b1 e1
        | some a =>
          rw [ea] at e1
          have la := lt a ea
          have n9 : ¬ nI a = -9 := fun q => by
            have := nI_pos' (n := a) (by omega)
            rw [q] at this
            exact absurd this (by decide)
          simp only [s178_57, s178_59, s178_61, s178_63, s178_66, s178_68, s178_70, s178_73, s178_75, s178_77, s178_79, oB_some, cl2_i, cl2_r, cl2_l, cl2_u, cl2_s, wd_0, wd_i, wd_r, wd_l, wd_f, ct_i, ct_r, ct_n, ct_f, rf_s, rf_n, tl_s, tl_n, true_and, and_true, eq_self, and_self, Nat.reduceAdd, Nat.reduceLeDiff, Nat.zero_le, Nat.reduceEqDiff, or_true, true_or, false_or, or_false, if_true, if_false, gI_0, gI_1, gI_2, gI_3, gI_4, gI_5, gI_6, gI_7, gI_8, gI_9, gI_10, gI_11, gI_12, gI_13, gI_14, gI_15, gL_0, gL_1, gL_2, gL_3, gL_4, gL_5, gL_6, gL_7, gL_8, gL_9, gL_10, gL_11, gL_12, gL_13, gL_14, gL_15, gA_0, gA_1, gA_2, gA_3, gA_4, gA_5, gA_6, gA_7, gA_8, gA_9, gA_10, gA_11, gA_12, gA_13, gA_14, gA_15, p1_0, p1_1, p1_2, p1_3, p1_4, p1_5, p1_6, p1_7, p1_8, p1_9, p1_10, p1_11, p1_12, p1_13, p1_14, p1_15, p2_0, p2_1, p2_2, p2_3, p2_4, p2_5, p2_6, p2_7, p2_8, p2_9, p2_10, p2_11, p2_12, p2_13, p2_14, p2_15, b01_ok, b_ft, b_tf, b01_e0, b01_e1, lgc_0, not_true_eq_false, not_false_eq_true, oN_some, n9, leP (show b.2 < 2 ^ 31 by omega) (show a < 2 ^ 31 by omega)]
          by_cases e5 : b.2 ≤ a
          · rw [if_pos e5]
            have e1' : lesA (frA S p t c) m (j + 1) (if a < b.2 then (some j, a) else b) = friN S p t c := e1
            rw [if_neg (by omega)] at e1'
            exact next h4 b _ mm b0 b1 e1'
          · rw [if_neg e5]
            have e1' : lesA (frA S p t c) m (j + 1) (if a < b.2 then (some j, a) else b) = friN S p t c := e1
            rw [if_pos (by omega)] at e1'
            exact next h4 (some j, a) _ mm (show a ≤ 61 by omega) (fun q hq => by cases hq; omega) e1'
  simp only [e178, s178_0, s178_2, s178_4, s178_6, s178_8, s178_9, oB_some, cl2_i, cl2_r, cl2_l, cl2_u, cl2_s, wd_0, wd_i, wd_r, wd_l, wd_f, ct_i, ct_r, ct_n, ct_f, rf_s, rf_n, tl_s, tl_n, true_and, and_true, eq_self, and_self, Nat.reduceAdd, Nat.reduceLeDiff, Nat.zero_le, Nat.reduceEqDiff, or_true, true_or, false_or, or_false, if_true, if_false, gI_0, gI_1, gI_2, gI_3, gI_4, gI_5, gI_6, gI_7, gI_8, gI_9, gI_10, gI_11, gI_12, gI_13, gI_14, gI_15, gL_0, gL_1, gL_2, gL_3, gL_4, gL_5, gL_6, gL_7, gL_8, gL_9, gL_10, gL_11, gL_12, gL_13, gL_14, gL_15, gA_0, gA_1, gA_2, gA_3, gA_4, gA_5, gA_6, gA_7, gA_8, gA_9, gA_10, gA_11, gA_12, gA_13, gA_14, gA_15, p1_0, p1_1, p1_2, p1_3, p1_4, p1_5, p1_6, p1_7, p1_8, p1_9, p1_10, p1_11, p1_12, p1_13, p1_14, p1_15, p2_0, p2_1, p2_2, p2_3, p2_4, p2_5, p2_6, p2_7, p2_8, p2_9, p2_10, p2_11, p2_12, p2_13, p2_14, p2_15, b01_ok, b_ft, b_tf, b01_e0, b01_e1, lgc_0, not_true_eq_false, not_false_eq_true]
  exact loop (vn S) 0 h (none, 61) _ (by omega) Fm.rf (Nat.le_refl _) (fun a ha => by cases ha) rfl
def swF (S : VS) (n a b : Nat) : Nat := together (dayN 0 false false n (exch S a b))
def swA (S : VS) (n : Nat) : Nat → Nat → Option Nat × Nat → Option Nat × Nat
  | 0, _, b => b
  | m + 1, a, b => swA S n m (a + 1) (betA (swF S n a) (fun o => 10 * a + o) (vn S - (a + 1)) (a + 1) b)
theorem swA_s (S : VS) (n m a : Nat) (b : Option Nat × Nat) : swA S n (m + 1) a b = swA S n m (a + 1) (betA (swF S n a) (fun o => 10 * a + o) (vn S - (a + 1)) (a + 1) b) := rfl
def swapN (S : VS) (n : Nat) : Option Nat := (swA S n (vn S) 0 (none, together (dayN 0 false false n S))).1
theorem sumN_le2 {f : Nat → Nat} {c : Nat} (hf : ∀ i, f i ≤ c) : ∀ n, sumN f n ≤ c * n
  | 0 => Nat.le_refl 0
  | n + 1 => by
    have a := sumN_le2 hf n
    have b := hf n
    rw [sumN_s, Nat.mul_succ]
    omega
theorem together_le {S : VS} (g : Good S) : together S ≤ 240 := by
  have a := sumN_le2 (f := fun i => nb (vw S i)) (c := 40) (fun i => nb_le _) (vn S)
  have gn := g.n
  unfold together
  omega
theorem mul10 : ∀ a, a < 6 → (10 : Int32) * nI a = nI (10 * a) := by decide +kernel
set_option maxHeartbeats 4000000 in
theorem v_knownIfExchanged {d : Nat} {Q : PQ} {h : HP} {f v w n a b : Nat} {S : VS} (x : FY h f v w S) (g : Good S) (hn : vy S + n < 2 ^ 20) (ha : a < vn S) (hb : b < vn S)
    (k : ∀ h', Fm w 12 h h' → Q (some (.int (nI (swF S n a b)))) h') : Ev (d + 6) 182 [.ref f, .int (nI a), .int (nI b), .int (nI n)] h Q := by
  have x0 := x.1
  simp only [e182, s182_0, s182_1, oB_some, cl2_i, cl2_r, cl2_l, cl2_u, cl2_s, wd_0, wd_i, wd_r, wd_l, wd_f, ct_i, ct_r, ct_n, ct_f, rf_s, rf_n, tl_s, tl_n, true_and, and_true, eq_self, and_self, Nat.reduceAdd, Nat.reduceLeDiff, Nat.zero_le, Nat.reduceEqDiff, or_true, true_or, false_or, or_false, if_true, if_false, gI_0, gI_1, gI_2, gI_3, gI_4, gI_5, gI_6, gI_7, gI_8, gI_9, gI_10, gI_11, gI_12, gI_13, gI_14, gI_15, gL_0, gL_1, gL_2, gL_3, gL_4, gL_5, gL_6, gL_7, gL_8, gL_9, gL_10, gL_11, gL_12, gL_13, gL_14, gL_15, gA_0, gA_1, gA_2, gA_3, gA_4, gA_5, gA_6, gA_7, gA_8, gA_9, gA_10, gA_11, gA_12, gA_13, gA_14, gA_15, p1_0, p1_1, p1_2, p1_3, p1_4, p1_5, p1_6, p1_7, p1_8, p1_9, p1_10, p1_11, p1_12, p1_13, p1_14, p1_15, p2_0, p2_1, p2_2, p2_3, p2_4, p2_5, p2_6, p2_7, p2_8, p2_9, p2_10, p2_11, p2_12, p2_13, p2_14, p2_15, b01_ok, b_ft, b_tf, b01_e0, b01_e1, lgc_0, not_true_eq_false, not_false_eq_true, x0]
  refine v_asItIs x g fun h1 m1 q1 f1 => ?_
  have x1 := x.kept m1
  have x10 := x1.1
  have K1 := q1.k
  unfold VK at K1
  simp only [s182_4, s182_5, s182_6, s182_9, s182_10, s182_11, oB_some, cl2_i, cl2_r, cl2_l, cl2_u, cl2_s, wd_0, wd_i, wd_r, wd_l, wd_f, ct_i, ct_r, ct_n, ct_f, rf_s, rf_n, tl_s, tl_n, true_and, and_true, eq_self, and_self, Nat.reduceAdd, Nat.reduceLeDiff, Nat.zero_le, Nat.reduceEqDiff, or_true, true_or, false_or, or_false, if_true, if_false, gI_0, gI_1, gI_2, gI_3, gI_4, gI_5, gI_6, gI_7, gI_8, gI_9, gI_10, gI_11, gI_12, gI_13, gI_14, gI_15, gL_0, gL_1, gL_2, gL_3, gL_4, gL_5, gL_6, gL_7, gL_8, gL_9, gL_10, gL_11, gL_12, gL_13, gL_14, gL_15, gA_0, gA_1, gA_2, gA_3, gA_4, gA_5, gA_6, gA_7, gA_8, gA_9, gA_10, gA_11, gA_12, gA_13, gA_14, gA_15, p1_0, p1_1, p1_2, p1_3, p1_4, p1_5, p1_6, p1_7, p1_8, p1_9, p1_10, p1_11, p1_12, p1_13, p1_14, p1_15, p2_0, p2_1, p2_2, p2_3, p2_4, p2_5, p2_6, p2_7, p2_8, p2_9, p2_10, p2_11, p2_12, p2_13, p2_14, p2_15, b01_ok, b_ft, b_tf, b01_e0, b01_e1, lgc_0, not_true_eq_false, not_false_eq_true, x10, K1]
  refine v_exchange q1 g f1 ha hb fun h2 m2 q2 f2 => ?_
  have x2 := x1.kept m2
  have x20 := x2.1
  have K2 := q2.k
  unfold VK at K2
  simp only [s182_14, s182_15, s182_18, s182_19, oB_some, cl2_i, cl2_r, cl2_l, cl2_u, cl2_s, wd_0, wd_i, wd_r, wd_l, wd_f, ct_i, ct_r, ct_n, ct_f, rf_s, rf_n, tl_s, tl_n, true_and, and_true, eq_self, and_self, Nat.reduceAdd, Nat.reduceLeDiff, Nat.zero_le, Nat.reduceEqDiff, or_true, true_or, false_or, or_false, if_true, if_false, gI_0, gI_1, gI_2, gI_3, gI_4, gI_5, gI_6, gI_7, gI_8, gI_9, gI_10, gI_11, gI_12, gI_13, gI_14, gI_15, gL_0, gL_1, gL_2, gL_3, gL_4, gL_5, gL_6, gL_7, gL_8, gL_9, gL_10, gL_11, gL_12, gL_13, gL_14, gL_15, gA_0, gA_1, gA_2, gA_3, gA_4, gA_5, gA_6, gA_7, gA_8, gA_9, gA_10, gA_11, gA_12, gA_13, gA_14, gA_15, p1_0, p1_1, p1_2, p1_3, p1_4, p1_5, p1_6, p1_7, p1_8, p1_9, p1_10, p1_11, p1_12, p1_13, p1_14, p1_15, p2_0, p2_1, p2_2, p2_3, p2_4, p2_5, p2_6, p2_7, p2_8, p2_9, p2_10, p2_11, p2_12, p2_13, p2_14, p2_15, b01_ok, b_ft, b_tf, b01_e0, b01_e1, lgc_0, not_true_eq_false, not_false_eq_true, x20, K2]
  have g2 := exch_good g ha hb
  refine v_passDays q2 g2 f2 (by decide) hn fun h3 m3 q3 f3 => ?_
  have x3 := x2.kept m3
  have x30 := x3.1
  have K3 := q3.k
  unfold VK at K3
  have kp := dayN_keep (ink := 0) (dm := false) (sh := false) (n := n) g2 hn
  simp only [s182_22, s182_23, s182_26, s182_29, oB_some, cl2_i, cl2_r, cl2_l, cl2_u, cl2_s, wd_0, wd_i, wd_r, wd_l, wd_f, ct_i, ct_r, ct_n, ct_f, rf_s, rf_n, tl_s, tl_n, true_and, and_true, eq_self, and_self, Nat.reduceAdd, Nat.reduceLeDiff, Nat.zero_le, Nat.reduceEqDiff, or_true, true_or, false_or, or_false, if_true, if_false, gI_0, gI_1, gI_2, gI_3, gI_4, gI_5, gI_6, gI_7, gI_8, gI_9, gI_10, gI_11, gI_12, gI_13, gI_14, gI_15, gL_0, gL_1, gL_2, gL_3, gL_4, gL_5, gL_6, gL_7, gL_8, gL_9, gL_10, gL_11, gL_12, gL_13, gL_14, gL_15, gA_0, gA_1, gA_2, gA_3, gA_4, gA_5, gA_6, gA_7, gA_8, gA_9, gA_10, gA_11, gA_12, gA_13, gA_14, gA_15, p1_0, p1_1, p1_2, p1_3, p1_4, p1_5, p1_6, p1_7, p1_8, p1_9, p1_10, p1_11, p1_12, p1_13, p1_14, p1_15, p2_0, p2_1, p2_2, p2_3, p2_4, p2_5, p2_6, p2_7, p2_8, p2_9, p2_10, p2_11, p2_12, p2_13, p2_14, p2_15, b01_ok, b_ft, b_tf, b01_e0, b01_e1, lgc_0, not_true_eq_false, not_false_eq_true, x30, K3, v_knownTogether q3 kp.1]
  exact k h3 (m1.tr (m2.tr m3))
set_option maxHeartbeats 8000000 in
theorem v_bestSwap {d : Nat} {Q : PQ} {h : HP} {f v w n : Nat} {S : VS} (x : FY h f v w S) (g : Good S) (hn : vy S + n < 2 ^ 20)
    (k : ∀ h', Fm w 12 h h' → Q (some (.int (oN (swapN S n)))) h') : Ev (d + 7) 181 [.ref f, .int (nI n)] h Q := by
  have gn := g.n
  have inner : ∀ (a m o : Nat) (h1 : HP) (b : Option Nat × Nat) (y : Slot) (R : Option Nat × Nat), a < vn S → a < o → o + m = vn S → Fm w 12 h h1 → b.2 ≤ 240 → betA (swF S n a) (fun o => 10 * a + o) m o b = R →
      (∀ (h2 : HP) (y2 y3 : Slot), Fm w 12 h h2 → R.2 ≤ 240 → WP (d + 6) 181 Q (80, [.val (.ref f), .val (.int (nI n)), .val (.int (oN R.1)), .val (.int (nI R.2)), .val (.int (nI a)), y2, y3], [], h2, 0, 0)) →
      WP (d + 6) 181 Q (33, [.val (.ref f), .val (.int (nI n)), .val (.int (oN b.1)), .val (.int (nI b.2)), .val (.int (nI a)), .val (.int (nI o)), y], [], h1, 0, 0) := by
    intro a m
    induction m with
    | zero =>
      intro o h1 b y R ha ho hm m1 b0 e1 kk
      obtain rfl : o = vn S := by omega
      have x1 := x.kept m1
      have x0 := x1.1
      have K1 := x1.2.2.1.k
      unfold VK at K1
      have e2 : b = R := e1
      subst e2
      rw [s181_33]
      simp only [s181_35, s181_36, s181_39, s181_42, oB_some, cl2_i, cl2_r, cl2_l, cl2_u, cl2_s, wd_0, wd_i, wd_r, wd_l, wd_f, ct_i, ct_r, ct_n, ct_f, rf_s, rf_n, tl_s, tl_n, true_and, and_true, eq_self, and_self, Nat.reduceAdd, Nat.reduceLeDiff, Nat.zero_le, Nat.reduceEqDiff, or_true, true_or, false_or, or_false, if_true, if_false, gI_0, gI_1, gI_2, gI_3, gI_4, gI_5, gI_6, gI_7, gI_8, gI_9, gI_10, gI_11, gI_12, gI_13, gI_14, gI_15, gL_0, gL_1, gL_2, gL_3, gL_4, gL_5, gL_6, gL_7, gL_8, gL_9, gL_10, gL_11, gL_12, gL_13, gL_14, gL_15, gA_0, gA_1, gA_2, gA_3, gA_4, gA_5, gA_6, gA_7, gA_8, gA_9, gA_10, gA_11, gA_12, gA_13, gA_14, gA_15, p1_0, p1_1, p1_2, p1_3, p1_4, p1_5, p1_6, p1_7, p1_8, p1_9, p1_10, p1_11, p1_12, p1_13, p1_14, p1_15, p2_0, p2_1, p2_2, p2_3, p2_4, p2_5, p2_6, p2_7, p2_8, p2_9, p2_10, p2_11, p2_12, p2_13, p2_14, p2_15, b01_ok, b_ft, b_tf, b01_e0, b01_e1, lgc_0, not_true_eq_false, not_false_eq_true, x0, K1, x1.2.2.1.n, Int32.le_refl]
      exact kk h1 _ _ m1 b0
    | succ m ih =>
      intro o h1 b y R ha ho hm m1 b0 e1 kk
      have x1 := x.kept m1
      have x0 := x1.1
      have K1 := x1.2.2.1.k
      unfold VK at K1
      have z : ¬ nI (vn S) ≤ nI o := nI_ge (by omega) (by omega)
      rw [betA_s] at e1
      rw [s181_33]
      simp only [s181_35, s181_36, s181_39, s181_42, s181_45, s181_46, s181_48, s181_50, s181_51, oB_some, cl2_i, cl2_r, cl2_l, cl2_u, cl2_s, wd_0, wd_i, wd_r, wd_l, wd_f, ct_i, ct_r, ct_n, ct_f, rf_s, rf_n, tl_s, tl_n, true_and, and_true, eq_self, and_self, Nat.reduceAdd, Nat.reduceLeDiff, Nat.zero_le, Nat.reduceEqDiff, or_true, true_or, false_or, or_false, if_true, if_false, gI_0, gI_1, gI_2, gI_3, gI_4, gI_5, gI_6, gI_7, gI_8, gI_9, gI_10, gI_11, gI_12, gI_13, gI_14, gI_15, gL_0, gL_1, gL_2, gL_3, gL_4, gL_5, gL_6, gL_7, gL_8, gL_9, gL_10, gL_11, gL_12, gL_13, gL_14, gL_15, gA_0, gA_1, gA_2, gA_3, gA_4, gA_5, gA_6, gA_7, gA_8, gA_9, gA_10, gA_11, gA_12, gA_13, gA_14, gA_15, p1_0, p1_1, p1_2, p1_3, p1_4, p1_5, p1_6, p1_7, p1_8, p1_9, p1_10, p1_11, p1_12, p1_13, p1_14, p1_15, p2_0, p2_1, p2_2, p2_3, p2_4, p2_5, p2_6, p2_7, p2_8, p2_9, p2_10, p2_11, p2_12, p2_13, p2_14, p2_15, b01_ok, b_ft, b_tf, b01_e0, b01_e1, lgc_0, not_true_eq_false, not_false_eq_true, x0, K1, x1.2.2.1.n, z]
      refine v_knownIfExchanged x1 g hn ha (show o < vn S by omega) fun h2 m2 => ?_
      have lf : swF S n a o ≤ 240 := together_le (dayN_keep (exch_good g ha (show o < vn S by omega)) hn).1
      simp only [s181_54, s181_56, s181_58, s181_59, s181_62, s181_64, s181_65, s181_67, s181_69, s181_70, s181_72, s181_73, s181_74, s181_77, oB_some, cl2_i, cl2_r, cl2_l, cl2_u, cl2_s, wd_0, wd_i, wd_r, wd_l, wd_f, ct_i, ct_r, ct_n, ct_f, rf_s, rf_n, tl_s, tl_n, true_and, and_true, eq_self, and_self, Nat.reduceAdd, Nat.reduceLeDiff, Nat.zero_le, Nat.reduceEqDiff, or_true, true_or, false_or, or_false, if_true, if_false, gI_0, gI_1, gI_2, gI_3, gI_4, gI_5, gI_6, gI_7, gI_8, gI_9, gI_10, gI_11, gI_12, gI_13, gI_14, gI_15, gL_0, gL_1, gL_2, gL_3, gL_4, gL_5, gL_6, gL_7, gL_8, gL_9, gL_10, gL_11, gL_12, gL_13, gL_14, gL_15, gA_0, gA_1, gA_2, gA_3, gA_4, gA_5, gA_6, gA_7, gA_8, gA_9, gA_10, gA_11, gA_12, gA_13, gA_14, gA_15, p1_0, p1_1, p1_2, p1_3, p1_4, p1_5, p1_6, p1_7, p1_8, p1_9, p1_10, p1_11, p1_12, p1_13, p1_14, p1_15, p2_0, p2_1, p2_2, p2_3, p2_4, p2_5, p2_6, p2_7, p2_8, p2_9, p2_10, p2_11, p2_12, p2_13, p2_14, p2_15, b01_ok, b_ft, b_tf, b01_e0, b01_e1, lgc_0, not_true_eq_false, not_false_eq_true, leP (show swF S n a o < 2 ^ 31 by omega) (show b.2 < 2 ^ 31 by omega), mul10 a (by omega), nI_add, nI_1]
      by_cases e3 : swF S n a o ≤ b.2
      · rw [if_pos e3]
        rw [if_neg (by omega)] at e1
        exact ih (o + 1) h2 b _ R ha (by omega) (by omega) (m1.tr m2) b0 e1 kk
      · rw [if_neg e3]
        rw [if_pos (by omega)] at e1
        exact ih (o + 1) h2 (some (10 * a + o), swF S n a o) _ R ha (by omega) (by omega) (m1.tr m2) lf e1 kk
  have outer : ∀ (m a : Nat) (h1 : HP) (b : Option Nat × Nat) (y y2 : Slot), a + m = vn S → Fm w 12 h h1 → b.2 ≤ 240 → (swA S n m a b).1 = swapN S n →
      WP (d + 6) 181 Q (15, [.val (.ref f), .val (.int (nI n)), .val (.int (oN b.1)), .val (.int (nI b.2)), .val (.int (nI a)), y, y2], [], h1, 0, 0) := by
    intro m
    induction m with
    | zero =>
      intro a h1 b y y2 hm m1 b0 e1
      obtain rfl : a = vn S := by omega
      have x1 := x.kept m1
      have x0 := x1.1
      have K1 := x1.2.2.1.k
      unfold VK at K1
      have e2 : b.1 = swapN S n := e1
      rw [s181_15]
      simp only [s181_17, s181_18, s181_21, s181_24, s181_86, s181_87, oB_some, cl2_i, cl2_r, cl2_l, cl2_u, cl2_s, wd_0, wd_i, wd_r, wd_l, wd_f, ct_i, ct_r, ct_n, ct_f, rf_s, rf_n, tl_s, tl_n, true_and, and_true, eq_self, and_self, Nat.reduceAdd, Nat.reduceLeDiff, Nat.zero_le, Nat.reduceEqDiff, or_true, true_or, false_or, or_false, if_true, if_false, gI_0, gI_1, gI_2, gI_3, gI_4, gI_5, gI_6, gI_7, gI_8, gI_9, gI_10, gI_11, gI_12, gI_13, gI_14, gI_15, gL_0, gL_1, gL_2, gL_3, gL_4, gL_5, gL_6, gL_7, gL_8, gL_9, gL_10, gL_11, gL_12, gL_13, gL_14, gL_15, gA_0, gA_1, gA_2, gA_3, gA_4, gA_5, gA_6, gA_7, gA_8, gA_9, gA_10, gA_11, gA_12, gA_13, gA_14, gA_15, p1_0, p1_1, p1_2, p1_3, p1_4, p1_5, p1_6, p1_7, p1_8, p1_9, p1_10, p1_11, p1_12, p1_13, p1_14, p1_15, p2_0, p2_1, p2_2, p2_3, p2_4, p2_5, p2_6, p2_7, p2_8, p2_9, p2_10, p2_11, p2_12, p2_13, p2_14, p2_15, b01_ok, b_ft, b_tf, b01_e0, b01_e1, lgc_0, not_true_eq_false, not_false_eq_true, x0, K1, x1.2.2.1.n, Int32.le_refl]
      have kk := k h1 m1
      rw [← e2] at kk
      exact kk
    | succ m ih =>
      intro a h1 b y y2 hm m1 b0 e1
      have x1 := x.kept m1
      have x0 := x1.1
      have K1 := x1.2.2.1.k
      unfold VK at K1
      have z : ¬ nI (vn S) ≤ nI a := nI_ge (by omega) (by omega)
      rw [swA_s] at e1
      rw [s181_15]
      simp only [s181_17, s181_18, s181_21, s181_24, s181_27, s181_29, s181_30, s181_31, oB_some, cl2_i, cl2_r, cl2_l, cl2_u, cl2_s, wd_0, wd_i, wd_r, wd_l, wd_f, ct_i, ct_r, ct_n, ct_f, rf_s, rf_n, tl_s, tl_n, true_and, and_true, eq_self, and_self, Nat.reduceAdd, Nat.reduceLeDiff, Nat.zero_le, Nat.reduceEqDiff, or_true, true_or, false_or, or_false, if_true, if_false, gI_0, gI_1, gI_2, gI_3, gI_4, gI_5, gI_6, gI_7, gI_8, gI_9, gI_10, gI_11, gI_12, gI_13, gI_14, gI_15, gL_0, gL_1, gL_2, gL_3, gL_4, gL_5, gL_6, gL_7, gL_8, gL_9, gL_10, gL_11, gL_12, gL_13, gL_14, gL_15, gA_0, gA_1, gA_2, gA_3, gA_4, gA_5, gA_6, gA_7, gA_8, gA_9, gA_10, gA_11, gA_12, gA_13, gA_14, gA_15, p1_0, p1_1, p1_2, p1_3, p1_4, p1_5, p1_6, p1_7, p1_8, p1_9, p1_10, p1_11, p1_12, p1_13, p1_14, p1_15, p2_0, p2_1, p2_2, p2_3, p2_4, p2_5, p2_6, p2_7, p2_8, p2_9, p2_10, p2_11, p2_12, p2_13, p2_14, p2_15, b01_ok, b_ft, b_tf, b01_e0, b01_e1, lgc_0, not_true_eq_false, not_false_eq_true, x0, K1, x1.2.2.1.n, z, nI_1]
      refine inner a (vn S - (a + 1)) (a + 1) h1 b _ _ (by omega) (by omega) (by omega) m1 b0 rfl fun h2 y3 y4 m2 r0 => ?_
      simp only [s181_80, s181_83, oB_some, cl2_i, cl2_r, cl2_l, cl2_u, cl2_s, wd_0, wd_i, wd_r, wd_l, wd_f, ct_i, ct_r, ct_n, ct_f, rf_s, rf_n, tl_s, tl_n, true_and, and_true, eq_self, and_self, Nat.reduceAdd, Nat.reduceLeDiff, Nat.zero_le, Nat.reduceEqDiff, or_true, true_or, false_or, or_false, if_true, if_false, gI_0, gI_1, gI_2, gI_3, gI_4, gI_5, gI_6, gI_7, gI_8, gI_9, gI_10, gI_11, gI_12, gI_13, gI_14, gI_15, gL_0, gL_1, gL_2, gL_3, gL_4, gL_5, gL_6, gL_7, gL_8, gL_9, gL_10, gL_11, gL_12, gL_13, gL_14, gL_15, gA_0, gA_1, gA_2, gA_3, gA_4, gA_5, gA_6, gA_7, gA_8, gA_9, gA_10, gA_11, gA_12, gA_13, gA_14, gA_15, p1_0, p1_1, p1_2, p1_3, p1_4, p1_5, p1_6, p1_7, p1_8, p1_9, p1_10, p1_11, p1_12, p1_13, p1_14, p1_15, p2_0, p2_1, p2_2, p2_3, p2_4, p2_5, p2_6, p2_7, p2_8, p2_9, p2_10, p2_11, p2_12, p2_13, p2_14, p2_15, b01_ok, b_ft, b_tf, b01_e0, b01_e1, lgc_0, not_true_eq_false, not_false_eq_true, nI_1]
      exact ih (a + 1) h2 _ _ _ (by omega) m2 r0 e1
  have x0 := x.1
  simp only [e181, s181_0, s181_2, s181_3, s181_4, s181_5, oB_some, cl2_i, cl2_r, cl2_l, cl2_u, cl2_s, wd_0, wd_i, wd_r, wd_l, wd_f, ct_i, ct_r, ct_n, ct_f, rf_s, rf_n, tl_s, tl_n, true_and, and_true, eq_self, and_self, Nat.reduceAdd, Nat.reduceLeDiff, Nat.zero_le, Nat.reduceEqDiff, or_true, true_or, false_or, or_false, if_true, if_false, gI_0, gI_1, gI_2, gI_3, gI_4, gI_5, gI_6, gI_7, gI_8, gI_9, gI_10, gI_11, gI_12, gI_13, gI_14, gI_15, gL_0, gL_1, gL_2, gL_3, gL_4, gL_5, gL_6, gL_7, gL_8, gL_9, gL_10, gL_11, gL_12, gL_13, gL_14, gL_15, gA_0, gA_1, gA_2, gA_3, gA_4, gA_5, gA_6, gA_7, gA_8, gA_9, gA_10, gA_11, gA_12, gA_13, gA_14, gA_15, p1_0, p1_1, p1_2, p1_3, p1_4, p1_5, p1_6, p1_7, p1_8, p1_9, p1_10, p1_11, p1_12, p1_13, p1_14, p1_15, p2_0, p2_1, p2_2, p2_3, p2_4, p2_5, p2_6, p2_7, p2_8, p2_9, p2_10, p2_11, p2_12, p2_13, p2_14, p2_15, b01_ok, b_ft, b_tf, b01_e0, b01_e1, lgc_0, not_true_eq_false, not_false_eq_true, x0]
  refine v_daysOn x g hn fun h1 m1 q1 => ?_
  have K1 := q1.k
  unfold VK at K1
  have kp := dayN_keep (ink := 0) (dm := false) (sh := false) (n := n) g hn
  simp only [s181_8, s181_11, s181_12, s181_13, oB_some, cl2_i, cl2_r, cl2_l, cl2_u, cl2_s, wd_0, wd_i, wd_r, wd_l, wd_f, ct_i, ct_r, ct_n, ct_f, rf_s, rf_n, tl_s, tl_n, true_and, and_true, eq_self, and_self, Nat.reduceAdd, Nat.reduceLeDiff, Nat.zero_le, Nat.reduceEqDiff, or_true, true_or, false_or, or_false, if_true, if_false, gI_0, gI_1, gI_2, gI_3, gI_4, gI_5, gI_6, gI_7, gI_8, gI_9, gI_10, gI_11, gI_12, gI_13, gI_14, gI_15, gL_0, gL_1, gL_2, gL_3, gL_4, gL_5, gL_6, gL_7, gL_8, gL_9, gL_10, gL_11, gL_12, gL_13, gL_14, gL_15, gA_0, gA_1, gA_2, gA_3, gA_4, gA_5, gA_6, gA_7, gA_8, gA_9, gA_10, gA_11, gA_12, gA_13, gA_14, gA_15, p1_0, p1_1, p1_2, p1_3, p1_4, p1_5, p1_6, p1_7, p1_8, p1_9, p1_10, p1_11, p1_12, p1_13, p1_14, p1_15, p2_0, p2_1, p2_2, p2_3, p2_4, p2_5, p2_6, p2_7, p2_8, p2_9, p2_10, p2_11, p2_12, p2_13, p2_14, p2_15, b01_ok, b_ft, b_tf, b01_e0, b01_e1, lgc_0, not_true_eq_false, not_false_eq_true, K1, v_knownTogether q1 kp.1]
  exact outer (vn S) 0 h1 (none, together (dayN 0 false false n S)) _ _ (by omega) m1 (together_le kp.1) rfl
theorem v_purpleLoss {d : Nat} {Q : PQ} {h : HP} {f v w n : Nat} {S : VS} (x : FY h f v w S) (g : Good S) (hn : vy S + n < 2 ^ 20)
    (k : ∀ h', Fm w 12 h h' → Q (some (.int (nI (nb (vs (dayN 0 false false n S))) - nI (nb (vs (dayN 0 false true n S)))))) h') : Ev (d + 7) 188 [.ref f, .int (nI n)] h Q := by
  have x0 := x.1
  simp only [e188, s188_0, s188_1, s188_2, oB_some, cl2_i, cl2_r, cl2_l, cl2_u, cl2_s, wd_0, wd_i, wd_r, wd_l, wd_f, ct_i, ct_r, ct_n, ct_f, rf_s, rf_n, tl_s, tl_n, true_and, and_true, eq_self, and_self, Nat.reduceAdd, Nat.reduceLeDiff, Nat.zero_le, Nat.reduceEqDiff, or_true, true_or, false_or, or_false, if_true, if_false, gI_0, gI_1, gI_2, gI_3, gI_4, gI_5, gI_6, gI_7, gI_8, gI_9, gI_10, gI_11, gI_12, gI_13, gI_14, gI_15, gL_0, gL_1, gL_2, gL_3, gL_4, gL_5, gL_6, gL_7, gL_8, gL_9, gL_10, gL_11, gL_12, gL_13, gL_14, gL_15, gA_0, gA_1, gA_2, gA_3, gA_4, gA_5, gA_6, gA_7, gA_8, gA_9, gA_10, gA_11, gA_12, gA_13, gA_14, gA_15, p1_0, p1_1, p1_2, p1_3, p1_4, p1_5, p1_6, p1_7, p1_8, p1_9, p1_10, p1_11, p1_12, p1_13, p1_14, p1_15, p2_0, p2_1, p2_2, p2_3, p2_4, p2_5, p2_6, p2_7, p2_8, p2_9, p2_10, p2_11, p2_12, p2_13, p2_14, p2_15, b01_ok, b_ft, b_tf, b01_e0, b01_e1, lgc_0, not_true_eq_false, not_false_eq_true, x0]
  refine v_daysOn x g hn fun h1 m1 q1 => ?_
  have x1 := x.kept m1
  have x10 := x1.1
  have K1 := q1.k
  unfold VK at K1
  have kp := dayN_keep (ink := 0) (dm := false) (sh := false) (n := n) g hn
  simp only [s188_5, s188_8, s188_11, s188_12, s188_13, oB_some, cl2_i, cl2_r, cl2_l, cl2_u, cl2_s, wd_0, wd_i, wd_r, wd_l, wd_f, ct_i, ct_r, ct_n, ct_f, rf_s, rf_n, tl_s, tl_n, true_and, and_true, eq_self, and_self, Nat.reduceAdd, Nat.reduceLeDiff, Nat.zero_le, Nat.reduceEqDiff, or_true, true_or, false_or, or_false, if_true, if_false, gI_0, gI_1, gI_2, gI_3, gI_4, gI_5, gI_6, gI_7, gI_8, gI_9, gI_10, gI_11, gI_12, gI_13, gI_14, gI_15, gL_0, gL_1, gL_2, gL_3, gL_4, gL_5, gL_6, gL_7, gL_8, gL_9, gL_10, gL_11, gL_12, gL_13, gL_14, gL_15, gA_0, gA_1, gA_2, gA_3, gA_4, gA_5, gA_6, gA_7, gA_8, gA_9, gA_10, gA_11, gA_12, gA_13, gA_14, gA_15, p1_0, p1_1, p1_2, p1_3, p1_4, p1_5, p1_6, p1_7, p1_8, p1_9, p1_10, p1_11, p1_12, p1_13, p1_14, p1_15, p2_0, p2_1, p2_2, p2_3, p2_4, p2_5, p2_6, p2_7, p2_8, p2_9, p2_10, p2_11, p2_12, p2_13, p2_14, p2_15, b01_ok, b_ft, b_tf, b01_e0, b01_e1, lgc_0, not_true_eq_false, not_false_eq_true, x10, K1, q1.s, v_bitCount kp.1.s]
  refine v_asItIs x1 g fun h2 m2 q2 f2 => ?_
  have x2 := x1.kept m2
  have x20 := x2.1
  have K2 := q2.k
  unfold VK at K2
  have q3 : RV (sI h2 w 15 1) w S := RV_i q2 (by decide)
  have m3 : Fm w 12 h2 (sI h2 w 15 1) := Fm.rf.sI (Nat.le_refl _) (by omega)
  simp only [s188_16, s188_17, s188_18, s188_21, s188_22, s188_25, s188_26, s188_29, s188_30, oB_some, cl2_i, cl2_r, cl2_l, cl2_u, cl2_s, wd_0, wd_i, wd_r, wd_l, wd_f, ct_i, ct_r, ct_n, ct_f, rf_s, rf_n, tl_s, tl_n, true_and, and_true, eq_self, and_self, Nat.reduceAdd, Nat.reduceLeDiff, Nat.zero_le, Nat.reduceEqDiff, or_true, true_or, false_or, or_false, if_true, if_false, gI_0, gI_1, gI_2, gI_3, gI_4, gI_5, gI_6, gI_7, gI_8, gI_9, gI_10, gI_11, gI_12, gI_13, gI_14, gI_15, gL_0, gL_1, gL_2, gL_3, gL_4, gL_5, gL_6, gL_7, gL_8, gL_9, gL_10, gL_11, gL_12, gL_13, gL_14, gL_15, gA_0, gA_1, gA_2, gA_3, gA_4, gA_5, gA_6, gA_7, gA_8, gA_9, gA_10, gA_11, gA_12, gA_13, gA_14, gA_15, p1_0, p1_1, p1_2, p1_3, p1_4, p1_5, p1_6, p1_7, p1_8, p1_9, p1_10, p1_11, p1_12, p1_13, p1_14, p1_15, p2_0, p2_1, p2_2, p2_3, p2_4, p2_5, p2_6, p2_7, p2_8, p2_9, p2_10, p2_11, p2_12, p2_13, p2_14, p2_15, b01_ok, b_ft, b_tf, b01_e0, b01_e1, lgc_0, not_true_eq_false, not_false_eq_true, z_hkd_sI, z_hln_sI, z_hL_sI, z_hR_sI, z_hnx_sI, z_hkd_sL, z_hln_sL, z_hI_sL, z_hR_sL, z_hnx_sL, z_hkd_sR, z_hln_sR, z_hI_sR, z_hL_sR, z_hnx_sR, z_hkd_cI, z_hln_cI, z_hL_cI, z_hR_cI, z_hnx_cI, z_hkd_cLg, z_hln_cLg, z_hI_cLg, z_hR_cLg, z_hnx_cLg, x20, K2]
  refine v_passDays q3 g (FV_sh f2) (by decide) hn fun h4 m4 q4 f4 => ?_
  have x4 := (x2.kept m3).kept m4
  have x40 := x4.1
  have K4 := q4.k
  unfold VK at K4
  have kp2 := dayN_keep (ink := 0) (dm := false) (sh := true) (n := n) g hn
  simp only [s188_33, s188_34, s188_35, s188_38, s188_41, s188_44, s188_45, oB_some, cl2_i, cl2_r, cl2_l, cl2_u, cl2_s, wd_0, wd_i, wd_r, wd_l, wd_f, ct_i, ct_r, ct_n, ct_f, rf_s, rf_n, tl_s, tl_n, true_and, and_true, eq_self, and_self, Nat.reduceAdd, Nat.reduceLeDiff, Nat.zero_le, Nat.reduceEqDiff, or_true, true_or, false_or, or_false, if_true, if_false, gI_0, gI_1, gI_2, gI_3, gI_4, gI_5, gI_6, gI_7, gI_8, gI_9, gI_10, gI_11, gI_12, gI_13, gI_14, gI_15, gL_0, gL_1, gL_2, gL_3, gL_4, gL_5, gL_6, gL_7, gL_8, gL_9, gL_10, gL_11, gL_12, gL_13, gL_14, gL_15, gA_0, gA_1, gA_2, gA_3, gA_4, gA_5, gA_6, gA_7, gA_8, gA_9, gA_10, gA_11, gA_12, gA_13, gA_14, gA_15, p1_0, p1_1, p1_2, p1_3, p1_4, p1_5, p1_6, p1_7, p1_8, p1_9, p1_10, p1_11, p1_12, p1_13, p1_14, p1_15, p2_0, p2_1, p2_2, p2_3, p2_4, p2_5, p2_6, p2_7, p2_8, p2_9, p2_10, p2_11, p2_12, p2_13, p2_14, p2_15, b01_ok, b_ft, b_tf, b01_e0, b01_e1, lgc_0, not_true_eq_false, not_false_eq_true, x40, K4, q4.s, v_bitCount kp2.1.s]
  exact k h4 (m1.tr (m2.tr (m3.tr m4)))
