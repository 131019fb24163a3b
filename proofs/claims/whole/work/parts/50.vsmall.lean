-- needs: 16.num 17.small 18.bits 20.spec 21.kinds 22.rep 23.bag 24.bag2 25.get 30.day
def sumN (f : Nat → Nat) : Nat → Nat
  | 0 => 0
  | n + 1 => sumN f n + f n
theorem sumN_s (f : Nat → Nat) (n : Nat) : sumN f (n + 1) = sumN f n + f n := rfl
def orN (f : Nat → Int64) : Nat → Int64
  | 0 => 0
  | n + 1 => orN f n ||| f n
def together (S : VS) : Nat := sumN (fun i => nb (vw S i)) (vn S)
def anyW (S : VS) : Int64 := orN (vw S) (vn S)
def howKnow (S : VS) (c : Nat) : Nat := sumN (fun i => if hb (vw S i) c = true then 1 else 0) (vn S)
def howOf (S : VS) (k : Nat) : Nat := sumN (fun i => if vk S i = k then 1 else 0) (vn S)
set_option maxHeartbeats 4000000 in
theorem v_knownTogether {d : Nat} {Q : PQ} {h : HP} {v : Nat} {S : VS} (q : RV h v S) (g : Good S) : Ev (d + 2) 152 [.ref v] h Q = Q (some (.int (nI (together S)))) h := by
  have k := q.k
  unfold VK at k
  have gn := g.n
  have loop : ∀ (m i : Nat), i + m = vn S → WP (d + 1) 152 Q (4, [.val (.ref v), .val (.int (nI (sumN (fun i => nb (vw S i)) i))), .val (.int (nI i))], [], h, 0, 0) = Q (some (.int (nI (together S)))) h := by
    intro m
    induction m with
    | zero =>
      intro i hi
      obtain rfl : i = vn S := by omega
      rw [s152_4]
      simp only [s152_0, s152_1, s152_2, s152_3, s152_5, s152_6, s152_9, s152_12, s152_13, s152_14, s152_17, s152_18, s152_19, s152_22, s152_23, s152_24, s152_27, s152_30, s152_31, oB_some, cl2_i, cl2_r, cl2_l, cl2_u, cl2_s, wd_0, wd_i, wd_r, wd_l, wd_f, ct_i, ct_r, ct_n, ct_f, rf_s, rf_n, tl_s, tl_n, true_and, and_true, eq_self, and_self, Nat.reduceAdd, Nat.reduceLeDiff, Nat.zero_le, Nat.reduceEqDiff, or_true, true_or, false_or, or_false, if_true, if_false, gI_0, gI_1, gI_2, gI_3, gI_4, gI_5, gI_6, gI_7, gI_8, gI_9, gI_10, gI_11, gI_12, gI_13, gI_14, gI_15, gL_0, gL_1, gL_2, gL_3, gL_4, gL_5, gL_6, gL_7, gL_8, gL_9, gL_10, gL_11, gL_12, gL_13, gL_14, gL_15, gA_0, gA_1, gA_2, gA_3, gA_4, gA_5, gA_6, gA_7, gA_8, gA_9, gA_10, gA_11, gA_12, gA_13, gA_14, gA_15, p1_0, p1_1, p1_2, p1_3, p1_4, p1_5, p1_6, p1_7, p1_8, p1_9, p1_10, p1_11, p1_12, p1_13, p1_14, p1_15, p2_0, p2_1, p2_2, p2_3, p2_4, p2_5, p2_6, p2_7, p2_8, p2_9, p2_10, p2_11, p2_12, p2_13, p2_14, p2_15, b01_ok, b_ft, b_tf, b01_e0, b01_e1, lgc_0, not_true_eq_false, not_false_eq_true, k, q.n, Int32.le_refl]
      rfl
    | succ m ih =>
      intro i hi
      have hp : i < vn S := by omega
      have p6 : i < 6 := by omega
      have p31 : i < 2 ^ 31 := by omega
      have z : ¬ nI (vn S) ≤ nI i := nI_ge (by omega) (by omega)
      rw [s152_4]
      simp only [s152_0, s152_1, s152_2, s152_3, s152_5, s152_6, s152_9, s152_12, s152_13, s152_14, s152_17, s152_18, s152_19, s152_22, s152_23, s152_24, s152_27, s152_30, s152_31, oB_some, cl2_i, cl2_r, cl2_l, cl2_u, cl2_s, wd_0, wd_i, wd_r, wd_l, wd_f, ct_i, ct_r, ct_n, ct_f, rf_s, rf_n, tl_s, tl_n, true_and, and_true, eq_self, and_self, Nat.reduceAdd, Nat.reduceLeDiff, Nat.zero_le, Nat.reduceEqDiff, or_true, true_or, false_or, or_false, if_true, if_false, gI_0, gI_1, gI_2, gI_3, gI_4, gI_5, gI_6, gI_7, gI_8, gI_9, gI_10, gI_11, gI_12, gI_13, gI_14, gI_15, gL_0, gL_1, gL_2, gL_3, gL_4, gL_5, gL_6, gL_7, gL_8, gL_9, gL_10, gL_11, gL_12, gL_13, gL_14, gL_15, gA_0, gA_1, gA_2, gA_3, gA_4, gA_5, gA_6, gA_7, gA_8, gA_9, gA_10, gA_11, gA_12, gA_13, gA_14, gA_15, p1_0, p1_1, p1_2, p1_3, p1_4, p1_5, p1_6, p1_7, p1_8, p1_9, p1_10, p1_11, p1_12, p1_13, p1_14, p1_15, p2_0, p2_1, p2_2, p2_3, p2_4, p2_5, p2_6, p2_7, p2_8, p2_9, p2_10, p2_11, p2_12, p2_13, p2_14, p2_15, b01_ok, b_ft, b_tf, b01_e0, b01_e1, lgc_0, not_true_eq_false, not_false_eq_true, k, q.n, z, (q.at hp).2.2.2.1, ix_nI p31, nI_pos' p31, p6, v_bitCount (g.at hp).2.2.2.1, nI_add, nI_1]
      exact ih (i + 1) (by omega)
  simp only [e152, s152_0, s152_1, s152_2, s152_3, s152_5, s152_6, s152_9, s152_12, s152_13, s152_14, s152_17, s152_18, s152_19, s152_22, s152_23, s152_24, s152_27, s152_30, s152_31, oB_some, cl2_i, cl2_r, cl2_l, cl2_u, cl2_s, wd_0, wd_i, wd_r, wd_l, wd_f, ct_i, ct_r, ct_n, ct_f, rf_s, rf_n, tl_s, tl_n, true_and, and_true, eq_self, and_self, Nat.reduceAdd, Nat.reduceLeDiff, Nat.zero_le, Nat.reduceEqDiff, or_true, true_or, false_or, or_false, if_true, if_false, gI_0, gI_1, gI_2, gI_3, gI_4, gI_5, gI_6, gI_7, gI_8, gI_9, gI_10, gI_11, gI_12, gI_13, gI_14, gI_15, gL_0, gL_1, gL_2, gL_3, gL_4, gL_5, gL_6, gL_7, gL_8, gL_9, gL_10, gL_11, gL_12, gL_13, gL_14, gL_15, gA_0, gA_1, gA_2, gA_3, gA_4, gA_5, gA_6, gA_7, gA_8, gA_9, gA_10, gA_11, gA_12, gA_13, gA_14, gA_15, p1_0, p1_1, p1_2, p1_3, p1_4, p1_5, p1_6, p1_7, p1_8, p1_9, p1_10, p1_11, p1_12, p1_13, p1_14, p1_15, p2_0, p2_1, p2_2, p2_3, p2_4, p2_5, p2_6, p2_7, p2_8, p2_9, p2_10, p2_11, p2_12, p2_13, p2_14, p2_15, b01_ok, b_ft, b_tf, b01_e0, b01_e1, lgc_0, not_true_eq_false, not_false_eq_true]
  exact loop (vn S) 0 (by omega)
set_option maxHeartbeats 4000000 in
theorem v_knownByAny {d : Nat} {Q : PQ} {h : HP} {v : Nat} {S : VS} (q : RV h v S) (g : Good S) : Ev (d + 1) 230 [.ref v] h Q = Q (some (.long (anyW S))) h := by
  have k := q.k
  unfold VK at k
  have gn := g.n
  have loop : ∀ (m i : Nat), i + m = vn S → WP d 230 Q (4, [.val (.ref v), .val (.long (orN (vw S) i)), .second, .val (.int (nI i))], [], h, 0, 0) = Q (some (.long (anyW S))) h := by
    intro m
    induction m with
    | zero =>
      intro i hi
      obtain rfl : i = vn S := by omega
      rw [s230_4]
      simp only [s230_0, s230_1, s230_2, s230_3, s230_5, s230_6, s230_9, s230_12, s230_13, s230_14, s230_17, s230_18, s230_19, s230_20, s230_21, s230_24, s230_27, s230_28, oB_some, cl2_i, cl2_r, cl2_l, cl2_u, cl2_s, wd_0, wd_i, wd_r, wd_l, wd_f, ct_i, ct_r, ct_n, ct_f, rf_s, rf_n, tl_s, tl_n, true_and, and_true, eq_self, and_self, Nat.reduceAdd, Nat.reduceLeDiff, Nat.zero_le, Nat.reduceEqDiff, or_true, true_or, false_or, or_false, if_true, if_false, gI_0, gI_1, gI_2, gI_3, gI_4, gI_5, gI_6, gI_7, gI_8, gI_9, gI_10, gI_11, gI_12, gI_13, gI_14, gI_15, gL_0, gL_1, gL_2, gL_3, gL_4, gL_5, gL_6, gL_7, gL_8, gL_9, gL_10, gL_11, gL_12, gL_13, gL_14, gL_15, gA_0, gA_1, gA_2, gA_3, gA_4, gA_5, gA_6, gA_7, gA_8, gA_9, gA_10, gA_11, gA_12, gA_13, gA_14, gA_15, p1_0, p1_1, p1_2, p1_3, p1_4, p1_5, p1_6, p1_7, p1_8, p1_9, p1_10, p1_11, p1_12, p1_13, p1_14, p1_15, p2_0, p2_1, p2_2, p2_3, p2_4, p2_5, p2_6, p2_7, p2_8, p2_9, p2_10, p2_11, p2_12, p2_13, p2_14, p2_15, b01_ok, b_ft, b_tf, b01_e0, b01_e1, lgc_0, not_true_eq_false, not_false_eq_true, k, q.n, Int32.le_refl]
      rfl
    | succ m ih =>
      intro i hi
      have hp : i < vn S := by omega
      have p6 : i < 6 := by omega
      have p31 : i < 2 ^ 31 := by omega
      have z : ¬ nI (vn S) ≤ nI i := nI_ge (by omega) (by omega)
      rw [s230_4]
      simp only [s230_0, s230_1, s230_2, s230_3, s230_5, s230_6, s230_9, s230_12, s230_13, s230_14, s230_17, s230_18, s230_19, s230_20, s230_21, s230_24, s230_27, s230_28, oB_some, cl2_i, cl2_r, cl2_l, cl2_u, cl2_s, wd_0, wd_i, wd_r, wd_l, wd_f, ct_i, ct_r, ct_n, ct_f, rf_s, rf_n, tl_s, tl_n, true_and, and_true, eq_self, and_self, Nat.reduceAdd, Nat.reduceLeDiff, Nat.zero_le, Nat.reduceEqDiff, or_true, true_or, false_or, or_false, if_true, if_false, gI_0, gI_1, gI_2, gI_3, gI_4, gI_5, gI_6, gI_7, gI_8, gI_9, gI_10, gI_11, gI_12, gI_13, gI_14, gI_15, gL_0, gL_1, gL_2, gL_3, gL_4, gL_5, gL_6, gL_7, gL_8, gL_9, gL_10, gL_11, gL_12, gL_13, gL_14, gL_15, gA_0, gA_1, gA_2, gA_3, gA_4, gA_5, gA_6, gA_7, gA_8, gA_9, gA_10, gA_11, gA_12, gA_13, gA_14, gA_15, p1_0, p1_1, p1_2, p1_3, p1_4, p1_5, p1_6, p1_7, p1_8, p1_9, p1_10, p1_11, p1_12, p1_13, p1_14, p1_15, p2_0, p2_1, p2_2, p2_3, p2_4, p2_5, p2_6, p2_7, p2_8, p2_9, p2_10, p2_11, p2_12, p2_13, p2_14, p2_15, b01_ok, b_ft, b_tf, b01_e0, b01_e1, lgc_0, not_true_eq_false, not_false_eq_true, k, q.n, z, (q.at hp).2.2.2.1, ix_nI p31, nI_pos' p31, p6, nI_1]
      exact ih (i + 1) (by omega)
  simp only [e230, s230_0, s230_1, s230_2, s230_3, s230_5, s230_6, s230_9, s230_12, s230_13, s230_14, s230_17, s230_18, s230_19, s230_20, s230_21, s230_24, s230_27, s230_28, oB_some, cl2_i, cl2_r, cl2_l, cl2_u, cl2_s, wd_0, wd_i, wd_r, wd_l, wd_f, ct_i, ct_r, ct_n, ct_f, rf_s, rf_n, tl_s, tl_n, true_and, and_true, eq_self, and_self, Nat.reduceAdd, Nat.reduceLeDiff, Nat.zero_le, Nat.reduceEqDiff, or_true, true_or, false_or, or_false, if_true, if_false, gI_0, gI_1, gI_2, gI_3, gI_4, gI_5, gI_6, gI_7, gI_8, gI_9, gI_10, gI_11, gI_12, gI_13, gI_14, gI_15, gL_0, gL_1, gL_2, gL_3, gL_4, gL_5, gL_6, gL_7, gL_8, gL_9, gL_10, gL_11, gL_12, gL_13, gL_14, gL_15, gA_0, gA_1, gA_2, gA_3, gA_4, gA_5, gA_6, gA_7, gA_8, gA_9, gA_10, gA_11, gA_12, gA_13, gA_14, gA_15, p1_0, p1_1, p1_2, p1_3, p1_4, p1_5, p1_6, p1_7, p1_8, p1_9, p1_10, p1_11, p1_12, p1_13, p1_14, p1_15, p2_0, p2_1, p2_2, p2_3, p2_4, p2_5, p2_6, p2_7, p2_8, p2_9, p2_10, p2_11, p2_12, p2_13, p2_14, p2_15, b01_ok, b_ft, b_tf, b01_e0, b01_e1, lgc_0, not_true_eq_false, not_false_eq_true]
  exact loop (vn S) 0 (by omega)
set_option maxHeartbeats 4000000 in
theorem v_howManyOf {d : Nat} {Q : PQ} {h : HP} {v c : Nat} {S : VS} (q : RV h v S) (g : Good S) (hc : c < 2 ^ 31) : Ev (d + 1) 249 [.ref v, .int (nI c)] h Q = Q (some (.int (nI (howOf S c)))) h := by
  have k := q.k
  unfold VK at k
  have gn := g.n
  have loop : ∀ (m i : Nat), i + m = vn S → WP d 249 Q (4, [.val (.ref v), .val (.int (nI c)), .val (.int (nI (sumN (fun i => if vk S i = c then 1 else 0) i))), .val (.int (nI i))], [], h, 0, 0) = Q (some (.int (nI (howOf S c)))) h := by
    intro m
    induction m with
    | zero =>
      intro i hi
      obtain rfl : i = vn S := by omega
      rw [s249_4]
      simp only [s249_0, s249_1, s249_2, s249_3, s249_5, s249_6, s249_9, s249_12, s249_13, s249_16, s249_17, s249_18, s249_19, s249_22, s249_25, s249_28, s249_31, s249_32, oB_some, cl2_i, cl2_r, cl2_l, cl2_u, cl2_s, wd_0, wd_i, wd_r, wd_l, wd_f, ct_i, ct_r, ct_n, ct_f, rf_s, rf_n, tl_s, tl_n, true_and, and_true, eq_self, and_self, Nat.reduceAdd, Nat.reduceLeDiff, Nat.zero_le, Nat.reduceEqDiff, or_true, true_or, false_or, or_false, if_true, if_false, gI_0, gI_1, gI_2, gI_3, gI_4, gI_5, gI_6, gI_7, gI_8, gI_9, gI_10, gI_11, gI_12, gI_13, gI_14, gI_15, gL_0, gL_1, gL_2, gL_3, gL_4, gL_5, gL_6, gL_7, gL_8, gL_9, gL_10, gL_11, gL_12, gL_13, gL_14, gL_15, gA_0, gA_1, gA_2, gA_3, gA_4, gA_5, gA_6, gA_7, gA_8, gA_9, gA_10, gA_11, gA_12, gA_13, gA_14, gA_15, p1_0, p1_1, p1_2, p1_3, p1_4, p1_5, p1_6, p1_7, p1_8, p1_9, p1_10, p1_11, p1_12, p1_13, p1_14, p1_15, p2_0, p2_1, p2_2, p2_3, p2_4, p2_5, p2_6, p2_7, p2_8, p2_9, p2_10, p2_11, p2_12, p2_13, p2_14, p2_15, b01_ok, b_ft, b_tf, b01_e0, b01_e1, lgc_0, not_true_eq_false, not_false_eq_true, k, q.n, Int32.le_refl]
      rfl
    | succ m ih =>
      intro i hi
      have hp : i < vn S := by omega
      have p6 : i < 6 := by omega
      have p31 : i < 2 ^ 31 := by omega
      have gk := (g.at hp).1
      have z : ¬ nI (vn S) ≤ nI i := nI_ge (by omega) (by omega)
      have i1 := ih (i + 1) (by omega)
      rw [sumN_s] at i1
      rw [s249_4]
      simp only [s249_0, s249_1, s249_2, s249_3, s249_5, s249_6, s249_9, s249_12, s249_13, s249_16, s249_17, s249_18, s249_19, s249_22, s249_25, s249_28, s249_31, s249_32, oB_some, cl2_i, cl2_r, cl2_l, cl2_u, cl2_s, wd_0, wd_i, wd_r, wd_l, wd_f, ct_i, ct_r, ct_n, ct_f, rf_s, rf_n, tl_s, tl_n, true_and, and_true, eq_self, and_self, Nat.reduceAdd, Nat.reduceLeDiff, Nat.zero_le, Nat.reduceEqDiff, or_true, true_or, false_or, or_false, if_true, if_false, gI_0, gI_1, gI_2, gI_3, gI_4, gI_5, gI_6, gI_7, gI_8, gI_9, gI_10, gI_11, gI_12, gI_13, gI_14, gI_15, gL_0, gL_1, gL_2, gL_3, gL_4, gL_5, gL_6, gL_7, gL_8, gL_9, gL_10, gL_11, gL_12, gL_13, gL_14, gL_15, gA_0, gA_1, gA_2, gA_3, gA_4, gA_5, gA_6, gA_7, gA_8, gA_9, gA_10, gA_11, gA_12, gA_13, gA_14, gA_15, p1_0, p1_1, p1_2, p1_3, p1_4, p1_5, p1_6, p1_7, p1_8, p1_9, p1_10, p1_11, p1_12, p1_13, p1_14, p1_15, p2_0, p2_1, p2_2, p2_3, p2_4, p2_5, p2_6, p2_7, p2_8, p2_9, p2_10, p2_11, p2_12, p2_13, p2_14, p2_15, b01_ok, b_ft, b_tf, b01_e0, b01_e1, lgc_0, not_true_eq_false, not_false_eq_true, k, q.n, z, (q.at hp).1, ix_nI p31, nI_pos' p31, p6, nI_1, eqP (show vk S i < 2 ^ 31 by omega) hc]
      by_cases e : vk S i = c
      · rw [if_neg (not_not_intro e)]
        rw [if_pos e] at i1
        exact i1
      · rw [if_pos e]
        rw [if_neg e] at i1
        exact i1
  simp only [e249, s249_0, s249_1, s249_2, s249_3, s249_5, s249_6, s249_9, s249_12, s249_13, s249_16, s249_17, s249_18, s249_19, s249_22, s249_25, s249_28, s249_31, s249_32, oB_some, cl2_i, cl2_r, cl2_l, cl2_u, cl2_s, wd_0, wd_i, wd_r, wd_l, wd_f, ct_i, ct_r, ct_n, ct_f, rf_s, rf_n, tl_s, tl_n, true_and, and_true, eq_self, and_self, Nat.reduceAdd, Nat.reduceLeDiff, Nat.zero_le, Nat.reduceEqDiff, or_true, true_or, false_or, or_false, if_true, if_false, gI_0, gI_1, gI_2, gI_3, gI_4, gI_5, gI_6, gI_7, gI_8, gI_9, gI_10, gI_11, gI_12, gI_13, gI_14, gI_15, gL_0, gL_1, gL_2, gL_3, gL_4, gL_5, gL_6, gL_7, gL_8, gL_9, gL_10, gL_11, gL_12, gL_13, gL_14, gL_15, gA_0, gA_1, gA_2, gA_3, gA_4, gA_5, gA_6, gA_7, gA_8, gA_9, gA_10, gA_11, gA_12, gA_13, gA_14, gA_15, p1_0, p1_1, p1_2, p1_3, p1_4, p1_5, p1_6, p1_7, p1_8, p1_9, p1_10, p1_11, p1_12, p1_13, p1_14, p1_15, p2_0, p2_1, p2_2, p2_3, p2_4, p2_5, p2_6, p2_7, p2_8, p2_9, p2_10, p2_11, p2_12, p2_13, p2_14, p2_15, b01_ok, b_ft, b_tf, b01_e0, b01_e1, lgc_0, not_true_eq_false, not_false_eq_true]
  exact loop (vn S) 0 (by omega)
set_option maxHeartbeats 4000000 in
theorem v_howManyKnow {d : Nat} {Q : PQ} {h : HP} {v c : Nat} {S : VS} (q : RV h v S) (g : Good S) (hc : c < 64) : Ev (d + 4) 229 [.ref v, .int (nI c)] h Q = Q (some (.int (nI (howKnow S c)))) h := by
  have k := q.k
  unfold VK at k
  have gn := g.n
  have c0 : ¬ nI c < 0 := nI_pos (by omega)
  have loop : ∀ (m i : Nat), i + m = vn S → WP (d + 3) 229 Q (4, [.val (.ref v), .val (.int (nI c)), .val (.int (nI (sumN (fun i => if hb (vw S i) c = true then 1 else 0) i))), .val (.int (nI i))], [], h, 0, 0) = Q (some (.int (nI (howKnow S c)))) h := by
    intro m
    induction m with
    | zero =>
      intro i hi
      obtain rfl : i = vn S := by omega
      rw [s229_4]
      simp only [s229_0, s229_1, s229_2, s229_3, s229_5, s229_6, s229_9, s229_12, s229_13, s229_16, s229_17, s229_18, s229_19, s229_22, s229_25, s229_28, s229_31, s229_34, s229_35, oB_some, cl2_i, cl2_r, cl2_l, cl2_u, cl2_s, wd_0, wd_i, wd_r, wd_l, wd_f, ct_i, ct_r, ct_n, ct_f, rf_s, rf_n, tl_s, tl_n, true_and, and_true, eq_self, and_self, Nat.reduceAdd, Nat.reduceLeDiff, Nat.zero_le, Nat.reduceEqDiff, or_true, true_or, false_or, or_false, if_true, if_false, gI_0, gI_1, gI_2, gI_3, gI_4, gI_5, gI_6, gI_7, gI_8, gI_9, gI_10, gI_11, gI_12, gI_13, gI_14, gI_15, gL_0, gL_1, gL_2, gL_3, gL_4, gL_5, gL_6, gL_7, gL_8, gL_9, gL_10, gL_11, gL_12, gL_13, gL_14, gL_15, gA_0, gA_1, gA_2, gA_3, gA_4, gA_5, gA_6, gA_7, gA_8, gA_9, gA_10, gA_11, gA_12, gA_13, gA_14, gA_15, p1_0, p1_1, p1_2, p1_3, p1_4, p1_5, p1_6, p1_7, p1_8, p1_9, p1_10, p1_11, p1_12, p1_13, p1_14, p1_15, p2_0, p2_1, p2_2, p2_3, p2_4, p2_5, p2_6, p2_7, p2_8, p2_9, p2_10, p2_11, p2_12, p2_13, p2_14, p2_15, b01_ok, b_ft, b_tf, b01_e0, b01_e1, lgc_0, not_true_eq_false, not_false_eq_true, k, q.n, Int32.le_refl]
      rfl
    | succ m ih =>
      intro i hi
      have hp : i < vn S := by omega
      have z : ¬ nI (vn S) ≤ nI i := nI_ge (by omega) (by omega)
      have i1 := ih (i + 1) (by omega)
      rw [sumN_s] at i1
      rw [s229_4]
      simp only [s229_0, s229_1, s229_2, s229_3, s229_5, s229_6, s229_9, s229_12, s229_13, s229_16, s229_17, s229_18, s229_19, s229_22, s229_25, s229_28, s229_31, s229_34, s229_35, oB_some, cl2_i, cl2_r, cl2_l, cl2_u, cl2_s, wd_0, wd_i, wd_r, wd_l, wd_f, ct_i, ct_r, ct_n, ct_f, rf_s, rf_n, tl_s, tl_n, true_and, and_true, eq_self, and_self, Nat.reduceAdd, Nat.reduceLeDiff, Nat.zero_le, Nat.reduceEqDiff, or_true, true_or, false_or, or_false, if_true, if_false, gI_0, gI_1, gI_2, gI_3, gI_4, gI_5, gI_6, gI_7, gI_8, gI_9, gI_10, gI_11, gI_12, gI_13, gI_14, gI_15, gL_0, gL_1, gL_2, gL_3, gL_4, gL_5, gL_6, gL_7, gL_8, gL_9, gL_10, gL_11, gL_12, gL_13, gL_14, gL_15, gA_0, gA_1, gA_2, gA_3, gA_4, gA_5, gA_6, gA_7, gA_8, gA_9, gA_10, gA_11, gA_12, gA_13, gA_14, gA_15, p1_0, p1_1, p1_2, p1_3, p1_4, p1_5, p1_6, p1_7, p1_8, p1_9, p1_10, p1_11, p1_12, p1_13, p1_14, p1_15, p2_0, p2_1, p2_2, p2_3, p2_4, p2_5, p2_6, p2_7, p2_8, p2_9, p2_10, p2_11, p2_12, p2_13, p2_14, p2_15, b01_ok, b_ft, b_tf, b01_e0, b01_e1, lgc_0, not_true_eq_false, not_false_eq_true, k, q.n, z, c0, v_hasLearnt q g hp hc, nI_1]
      by_cases e : hb (vw S i) c = true
      · rw [if_neg (by rw [e]; decide)]
        rw [if_pos e] at i1
        exact i1
      · rw [if_pos (by simpa using e)]
        rw [if_neg e] at i1
        exact i1
  simp only [e229, s229_0, s229_1, s229_2, s229_3, s229_5, s229_6, s229_9, s229_12, s229_13, s229_16, s229_17, s229_18, s229_19, s229_22, s229_25, s229_28, s229_31, s229_34, s229_35, oB_some, cl2_i, cl2_r, cl2_l, cl2_u, cl2_s, wd_0, wd_i, wd_r, wd_l, wd_f, ct_i, ct_r, ct_n, ct_f, rf_s, rf_n, tl_s, tl_n, true_and, and_true, eq_self, and_self, Nat.reduceAdd, Nat.reduceLeDiff, Nat.zero_le, Nat.reduceEqDiff, or_true, true_or, false_or, or_false, if_true, if_false, gI_0, gI_1, gI_2, gI_3, gI_4, gI_5, gI_6, gI_7, gI_8, gI_9, gI_10, gI_11, gI_12, gI_13, gI_14, gI_15, gL_0, gL_1, gL_2, gL_3, gL_4, gL_5, gL_6, gL_7, gL_8, gL_9, gL_10, gL_11, gL_12, gL_13, gL_14, gL_15, gA_0, gA_1, gA_2, gA_3, gA_4, gA_5, gA_6, gA_7, gA_8, gA_9, gA_10, gA_11, gA_12, gA_13, gA_14, gA_15, p1_0, p1_1, p1_2, p1_3, p1_4, p1_5, p1_6, p1_7, p1_8, p1_9, p1_10, p1_11, p1_12, p1_13, p1_14, p1_15, p2_0, p2_1, p2_2, p2_3, p2_4, p2_5, p2_6, p2_7, p2_8, p2_9, p2_10, p2_11, p2_12, p2_13, p2_14, p2_15, b01_ok, b_ft, b_tf, b01_e0, b01_e1, lgc_0, not_true_eq_false, not_false_eq_true]
  exact loop (vn S) 0 (by omega)
theorem v_knownInAll {d : Nat} {Q : PQ} {h : HP} {v : Nat} {S : VS} (q : RV h v S) (g : Good S) : Ev (d + 3) 240 [.ref v] h Q = Q (some (.int (nI (together S + nb (vs S))))) h := by
  have k := q.k
  unfold VK at k
  simp only [e240, s240_0, s240_1, s240_4, s240_5, s240_8, s240_11, s240_12, oB_some, cl2_i, cl2_r, cl2_l, cl2_u, cl2_s, wd_0, wd_i, wd_r, wd_l, wd_f, ct_i, ct_r, ct_n, ct_f, rf_s, rf_n, tl_s, tl_n, true_and, and_true, eq_self, and_self, Nat.reduceAdd, Nat.reduceLeDiff, Nat.zero_le, Nat.reduceEqDiff, or_true, true_or, false_or, or_false, if_true, if_false, gI_0, gI_1, gI_2, gI_3, gI_4, gI_5, gI_6, gI_7, gI_8, gI_9, gI_10, gI_11, gI_12, gI_13, gI_14, gI_15, gL_0, gL_1, gL_2, gL_3, gL_4, gL_5, gL_6, gL_7, gL_8, gL_9, gL_10, gL_11, gL_12, gL_13, gL_14, gL_15, gA_0, gA_1, gA_2, gA_3, gA_4, gA_5, gA_6, gA_7, gA_8, gA_9, gA_10, gA_11, gA_12, gA_13, gA_14, gA_15, p1_0, p1_1, p1_2, p1_3, p1_4, p1_5, p1_6, p1_7, p1_8, p1_9, p1_10, p1_11, p1_12, p1_13, p1_14, p1_15, p2_0, p2_1, p2_2, p2_3, p2_4, p2_5, p2_6, p2_7, p2_8, p2_9, p2_10, p2_11, p2_12, p2_13, p2_14, p2_15, b01_ok, b_ft, b_tf, b01_e0, b01_e1, lgc_0, not_true_eq_false, not_false_eq_true, k, v_knownTogether q g, q.s, v_bitCount g.s, nI_add]
